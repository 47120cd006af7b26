def Law_element (sX : S_X) (a1 : Int32) (a2 : Int32) (a3 : Int32) (a4 : Int32) (a5 : Int32) (sTab : S_Tab) : Option (Int32 × S_Tab) := o_bd (X_element sX a1 a2 a3 a4 a5 sTab) fun q1 => (if q1.1 = 0 then some ((0, q1.2)) else if q1.1 = 1 then some ((1, q1.2)) else none)
abbrev rm_Law_element : Room := { frames := 7, cells := 1, slots := 6, locals := 108 }
set_option maxHeartbeats 4000000 in
set_option maxRecDepth 100000 in
theorem c_Law_element (l : Launch) (D : va_G) (K : Nat → ClassId) (htr : ∀ e : Env, l.admits e → e.platform.stackTraces = false) (hX : Nat → Nat) (hVAL : Nat → Nat) (hTab : Nat → Nat) (hProg : Nat → Nat) (hWalk : Nat → Nat) (hWri : Nat → Nat) (hRea : Nat → Nat) (hTP : Nat → Nat) (hGrd : Nat → Nat) (sX : S_X) (sTab : S_Tab) (a1 : Int32) (a2 : Int32) (a3 : Int32) (a4 : Int32) (a5 : Int32) (r : Int32) (sTab' : S_Tab) (hf : Law_element sX a1 a2 a3 a4 a5 sTab = some ((r, sTab'))) : mw l D K y_Law_element ws_Law_element rm_Law_element [.ref (hX 0), .int a1, .int a2, .int a3, .int a4, .int a5] (fl [wX K hX (hTab 0) (hProg 0) (hWalk 0) (hWri 0) (hRea 0) (hTP 0) (hGrd 0) (hVAL 0) sX, wTab K hTab sTab]) (fl [wX K hX (hTab 0) (hProg 0) (hWalk 0) (hWri 0) (hRea 0) (hTP 0) (hGrd 0) (hVAL 0) sX, wTab K hTab sTab']) r := by
  refine mw_of (cc := b_Law_element) (maxL := 7) (own := "ObsMessagesLaw") (by decide) rfl rfl (Nat.le_of_ble_eq_true rfl) ?_
  intro p e s m below meth c A ls hC htab hP hD hS hl
  obtain ⟨hx, hb, hml, hown, hts, hr, hlocks, hK, hF, hA⟩ := hC
  have hP : va_P D vwCl (fl [wX K hX (hTab 0) (hProg 0) (hWalk 0) (hWri 0) (hRea 0) (hTP 0) (hGrd 0) (hVAL 0) sX, wTab K hTab sTab]) s.heap := hP
  have hl : lv_has ls 7 [(0, .ref (hX 0)), (1, .int a1), (2, .int a2), (3, .int a3), (4, .int a4), (5, .int a5)] := hl
  suffices hW : ∀ (H : Heap) (locs : List Loc), va_P D vwCl (fl [wX K hX (hTab 0) (hProg 0) (hWalk 0) (hWri 0) (hRea 0) (hTP 0) (hGrd 0) (hVAL 0) sX, wTab K hTab sTab]) H → va_S A s.heap H locs → W p l e rm_Law_element s m ([.ref (hX 0), .int a1, .int a2, .int a3, .int a4, .int a5] : List Value).toArray below meth c H locs 0 0 (Qw below ([.ref (hX 0), .int a1, .int a2, .int a3, .int a4, .int a5] : List Value).toArray s D K A (fl [wX K hX (hTab 0) (hProg 0) (hWalk 0) (hWri 0) (hRea 0) (hTP 0) (hGrd 0) (hVAL 0) sX, wTab K hTab sTab']) r) (F0 m 0 ls []) from hW s.heap [] hP hS
  clear hP hS
  intro H locs hP hS
  refine lv_aload_n (pc := 0) hx hb d_Law_element_0 rfl (lv_at hl 0 rfl) ?_
  refine lv_iload_n (pc := 1) hx hb d_Law_element_1 rfl (lv_at hl 1 rfl) ?_
  refine lv_iload_n (pc := 2) hx hb d_Law_element_2 rfl (lv_at hl 2 rfl) ?_
  refine lv_iload_n (pc := 3) hx hb d_Law_element_3 rfl (lv_at hl 3 rfl) ?_
  refine lv_iload (pc := 4) hx hb d_Law_element_4 (lv_at hl 4 rfl) ?_
  refine lv_iload (pc := 6) hx hb d_Law_element_6 (lv_at hl 5 rfl) ?_
  obtain ⟨q1, hq1, hf⟩ := o_bd_e hf
  refine fi_t (pc := 8) (run_T (As := [.int a1, .int a2, .int a3, .int a4, .int a5]) (rest := []) ⟨hx, hb, hml, hown, hts⟩ ((c_X_element l D K htr hX hVAL hTab hProg hWalk hWri hRea hTP hGrd sX sTab a1 a2 a3 a4 a5 q1.1 q1.2 hq1) _) (cwV 5 hts (gV tw_675 tw_676 tw_677 tw_1 tw_678) rfl rfl rfl (by decide +kernel) ⟨by decide, by decide⟩) ⟨mPre_blind, va_recv hK hP (ci := 0) rfl (fl_at 0 0 rfl rfl), (mPre_fl hK hF hA hP hD hS [0, 1] rfl rfl)⟩ rfl rfl hl.1 rfl (lv_room (Nat.le_of_ble_eq_true rfl)) d_Law_element_8 ⟨Nat.le_refl _, Nat.le_refl _⟩) hA hP hD hS [0, 1] rfl rfl (fun hx0 H locs hP hD hS => ?_) (fun hx0 H locs aX cX hP hD hS hXc hXo hXk => ?_)
  · replace hf := o_t hx0 hf
    have hP : va_P D vwCl (fl [wX K hX (hTab 0) (hProg 0) (hWalk 0) (hWri 0) (hRea 0) (hTP 0) (hGrd 0) (hVAL 0) sX, wTab K hTab q1.2]) H := hP
    have hD : va_D A (fl [wX K hX (hTab 0) (hProg 0) (hWalk 0) (hWri 0) (hRea 0) (hTP 0) (hGrd 0) (hVAL 0) sX, wTab K hTab q1.2]) := hD
    refine W.eq (g2 := F0 m 11 ls []) rfl ?_
    refine lv_goto (tgt := 18) (pc := 11) hx hb d_Law_element_11 (by decide) ?_
    refine lv_iconst (v := 0) (pc := 18) hx hb d_Law_element_18 (by decide) ?_
    cases hf
    exact ret_w hx hb hr hlocks hK hP hS d_Law_element_19
  · replace hf := o_f hx0 hf
    have hP : va_P D vwCl (fl [wX K hX (hTab 0) (hProg 0) (hWalk 0) (hWri 0) (hRea 0) (hTP 0) (hGrd 0) (hVAL 0) sX, wTab K hTab q1.2]) H := hP
    have hD : va_D A (fl [wX K hX (hTab 0) (hProg 0) (hWalk 0) (hWri 0) (hRea 0) (hTP 0) (hGrd 0) (hVAL 0) sX, wTab K hTab q1.2]) := hD
    rcases Classical.em (q1.1 = 1) with c2 | c2
    · replace hf := o_t c2 hf
      refine ca_W (hp := 14) (hits_1 (cls := "java/lang/IllegalArgumentException") hown htab ⟨by decide, by decide⟩ (by decide) (hts _ (List.mem_cons_of_mem _ tw_674)) (va_Nw.use rfl (hF.2.1.2.2.2.2 _ ck_1)) (by rw [c2, exN_1] at hXk; exact hXk)) (Vm.classAt_of_findClass hXk) hXc hXo ?_
      refine lv_astore (lv' := [(6, .ref aX), (0, .ref (hX 0)), (1, .int a1), (2, .int a2), (3, .int a3), (4, .int a4), (5, .int a5)]) (pc := 14) hx hb d_Law_element_14 hl (by decide) rfl (fun ls hl => ?_)
      refine lv_iconst (v := 1) (pc := 16) hx hb d_Law_element_16 (by decide) ?_
      cases hf
      exact ret_w hx hb hr hlocks hK hP hS d_Law_element_17
    · replace hf := o_f c2 hf
      exact absurd hf (fun h => nomatch h)
def Law_version (sX : S_X) (a1 : Int32) (sTab : S_Tab) : Option (Int32 × S_Tab) := o_bd (X_version sX a1 sTab) fun q1 => (if q1.1 = 0 then some ((0, q1.2)) else if q1.1 = 1 then some ((1, q1.2)) else none)
abbrev rm_Law_version : Room := { frames := 7, cells := 1, slots := 6, locals := 103 }
set_option maxHeartbeats 4000000 in
set_option maxRecDepth 100000 in
theorem c_Law_version (l : Launch) (D : va_G) (K : Nat → ClassId) (htr : ∀ e : Env, l.admits e → e.platform.stackTraces = false) (hX : Nat → Nat) (hVAL : Nat → Nat) (hTab : Nat → Nat) (hProg : Nat → Nat) (hWalk : Nat → Nat) (hWri : Nat → Nat) (hRea : Nat → Nat) (hTP : Nat → Nat) (hGrd : Nat → Nat) (sX : S_X) (sTab : S_Tab) (a1 : Int32) (r : Int32) (sTab' : S_Tab) (hf : Law_version sX a1 sTab = some ((r, sTab'))) : mw l D K y_Law_version ws_Law_version rm_Law_version [.ref (hX 0), .int a1] (fl [wX K hX (hTab 0) (hProg 0) (hWalk 0) (hWri 0) (hRea 0) (hTP 0) (hGrd 0) (hVAL 0) sX, wTab K hTab sTab]) (fl [wX K hX (hTab 0) (hProg 0) (hWalk 0) (hWri 0) (hRea 0) (hTP 0) (hGrd 0) (hVAL 0) sX, wTab K hTab sTab']) r := by
  refine mw_of (cc := b_Law_version) (maxL := 3) (own := "ObsMessagesLaw") (by decide) rfl rfl (Nat.le_of_ble_eq_true rfl) ?_
  intro p e s m below meth c A ls hC htab hP hD hS hl
  obtain ⟨hx, hb, hml, hown, hts, hr, hlocks, hK, hF, hA⟩ := hC
  have hP : va_P D vwCl (fl [wX K hX (hTab 0) (hProg 0) (hWalk 0) (hWri 0) (hRea 0) (hTP 0) (hGrd 0) (hVAL 0) sX, wTab K hTab sTab]) s.heap := hP
  have hl : lv_has ls 3 [(0, .ref (hX 0)), (1, .int a1)] := hl
  suffices hW : ∀ (H : Heap) (locs : List Loc), va_P D vwCl (fl [wX K hX (hTab 0) (hProg 0) (hWalk 0) (hWri 0) (hRea 0) (hTP 0) (hGrd 0) (hVAL 0) sX, wTab K hTab sTab]) H → va_S A s.heap H locs → W p l e rm_Law_version s m ([.ref (hX 0), .int a1] : List Value).toArray below meth c H locs 0 0 (Qw below ([.ref (hX 0), .int a1] : List Value).toArray s D K A (fl [wX K hX (hTab 0) (hProg 0) (hWalk 0) (hWri 0) (hRea 0) (hTP 0) (hGrd 0) (hVAL 0) sX, wTab K hTab sTab']) r) (F0 m 0 ls []) from hW s.heap [] hP hS
  clear hP hS
  intro H locs hP hS
  refine lv_aload_n (pc := 0) hx hb d_Law_version_0 rfl (lv_at hl 0 rfl) ?_
  refine lv_iload_n (pc := 1) hx hb d_Law_version_1 rfl (lv_at hl 1 rfl) ?_
  obtain ⟨q1, hq1, hf⟩ := o_bd_e hf
  refine fi_t (pc := 2) (run_T (As := [.int a1]) (rest := []) ⟨hx, hb, hml, hown, hts⟩ ((c_X_version l D K htr hX hVAL hTab hProg hWalk hWri hRea hTP hGrd sX sTab a1 q1.1 q1.2 hq1) _) (cwV 1 hts (gV tw_757 tw_758 tw_759 tw_1 tw_760) rfl rfl rfl (by decide +kernel) ⟨by decide, by decide⟩) ⟨mPre_blind, va_recv hK hP (ci := 0) rfl (fl_at 0 0 rfl rfl), (mPre_fl hK hF hA hP hD hS [0, 1] rfl rfl)⟩ rfl rfl hl.1 rfl (lv_room (Nat.le_of_ble_eq_true rfl)) d_Law_version_2 ⟨Nat.le_refl _, Nat.le_refl _⟩) hA hP hD hS [0, 1] rfl rfl (fun hx0 H locs hP hD hS => ?_) (fun hx0 H locs aX cX hP hD hS hXc hXo hXk => ?_)
  · replace hf := o_t hx0 hf
    have hP : va_P D vwCl (fl [wX K hX (hTab 0) (hProg 0) (hWalk 0) (hWri 0) (hRea 0) (hTP 0) (hGrd 0) (hVAL 0) sX, wTab K hTab q1.2]) H := hP
    have hD : va_D A (fl [wX K hX (hTab 0) (hProg 0) (hWalk 0) (hWri 0) (hRea 0) (hTP 0) (hGrd 0) (hVAL 0) sX, wTab K hTab q1.2]) := hD
    refine W.eq (g2 := F0 m 5 ls []) rfl ?_
    refine lv_goto (tgt := 11) (pc := 5) hx hb d_Law_version_5 (by decide) ?_
    refine lv_iconst (v := 0) (pc := 11) hx hb d_Law_version_11 (by decide) ?_
    cases hf
    exact ret_w hx hb hr hlocks hK hP hS d_Law_version_12
  · replace hf := o_f hx0 hf
    have hP : va_P D vwCl (fl [wX K hX (hTab 0) (hProg 0) (hWalk 0) (hWri 0) (hRea 0) (hTP 0) (hGrd 0) (hVAL 0) sX, wTab K hTab q1.2]) H := hP
    have hD : va_D A (fl [wX K hX (hTab 0) (hProg 0) (hWalk 0) (hWri 0) (hRea 0) (hTP 0) (hGrd 0) (hVAL 0) sX, wTab K hTab q1.2]) := hD
    rcases Classical.em (q1.1 = 1) with c2 | c2
    · replace hf := o_t c2 hf
      refine ca_W (hp := 8) (hits_1 (cls := "java/lang/IllegalArgumentException") hown htab ⟨by decide, by decide⟩ (by decide) (hts _ (List.mem_cons_of_mem _ tw_674)) (va_Nw.use rfl (hF.2.1.2.2.2.2 _ ck_1)) (by rw [c2, exN_1] at hXk; exact hXk)) (Vm.classAt_of_findClass hXk) hXc hXo ?_
      refine lv_astore_n (lv' := [(2, .ref aX), (0, .ref (hX 0)), (1, .int a1)]) (pc := 8) hx hb d_Law_version_8 rfl hl (by decide) rfl (fun ls hl => ?_)
      refine lv_iconst (v := 1) (pc := 9) hx hb d_Law_version_9 (by decide) ?_
      cases hf
      exact ret_w hx hb hr hlocks hK hP hS d_Law_version_10
    · replace hf := o_f c2 hf
      exact absurd hf (fun h => nomatch h)
def Law_append (fu : Nat) (nRW : Nat) (sX : S_X) (a1 : Int32) (a2 : Int32) (sTab : S_Tab) (sRW : (Nat → Int64)) : Option (Int32 × S_Tab × (Nat → Int64)) := o_bd (X_append fu sX a1 a2 sTab) fun q1 => (if q1.1 = 0 then o_gd (o_in 0 nRW) (o_lt (vp_updL sRW (0 : Int32).toNatClampNeg ((q1.2.1 : Int32).toInt64)) fun sRW_3 => (some ((0, q1.2.2, sRW_3)))) else if q1.1 = 1 then some ((1, q1.2.2, sRW)) else if q1.1 = 2 then some ((2, q1.2.2, sRW)) else none)
abbrev rm_Law_append : Room := { frames := 7, cells := 1, slots := 6, locals := 105 }
set_option maxHeartbeats 4000000 in
set_option maxRecDepth 100000 in
theorem c_Law_append (l : Launch) (D : va_G) (K : Nat → ClassId) (htr : ∀ e : Env, l.admits e → e.platform.stackTraces = false) (fu : Nat) (hX : Nat → Nat) (hVAL : Nat → Nat) (hTab : Nat → Nat) (hProg : Nat → Nat) (hWalk : Nat → Nat) (hWri : Nat → Nat) (hRea : Nat → Nat) (hTP : Nat → Nat) (hGrd : Nat → Nat) (hRW : Nat → Nat) (nRW : Nat) (sX : S_X) (sTab : S_Tab) (sRW : (Nat → Int64)) (a1 : Int32) (a2 : Int32) (r : Int32) (sTab' : S_Tab) (sRW' : (Nat → Int64)) (hf : Law_append fu nRW sX a1 a2 sTab sRW = some ((r, sTab', sRW'))) : mw l D K y_Law_append ws_Law_append rm_Law_append [.ref (hX 0), .int a1, .int a2, .ref (hRW 0)] (fl [wX K hX (hTab 0) (hProg 0) (hWalk 0) (hWri 0) (hRea 0) (hTP 0) (hGrd 0) (hVAL 0) sX, wTab K hTab sTab, wRow K hRW nRW sRW]) (fl [wX K hX (hTab 0) (hProg 0) (hWalk 0) (hWri 0) (hRea 0) (hTP 0) (hGrd 0) (hVAL 0) sX, wTab K hTab sTab', wRow K hRW nRW sRW']) r := by
  refine mw_of (cc := b_Law_append) (maxL := 5) (own := "ObsMessagesLaw") (by decide) rfl rfl (Nat.le_of_ble_eq_true rfl) ?_
  intro p e s m below meth c A ls hC htab hP hD hS hl
  obtain ⟨hx, hb, hml, hown, hts, hr, hlocks, hK, hF, hA⟩ := hC
  have hP : va_P D vwCl (fl [wX K hX (hTab 0) (hProg 0) (hWalk 0) (hWri 0) (hRea 0) (hTP 0) (hGrd 0) (hVAL 0) sX, wTab K hTab sTab, wRow K hRW nRW sRW]) s.heap := hP
  have hl : lv_has ls 5 [(0, .ref (hX 0)), (1, .int a1), (2, .int a2), (3, .ref (hRW 0))] := hl
  suffices hW : ∀ (H : Heap) (locs : List Loc), va_P D vwCl (fl [wX K hX (hTab 0) (hProg 0) (hWalk 0) (hWri 0) (hRea 0) (hTP 0) (hGrd 0) (hVAL 0) sX, wTab K hTab sTab, wRow K hRW nRW sRW]) H → va_S A s.heap H locs → W p l e rm_Law_append s m ([.ref (hX 0), .int a1, .int a2, .ref (hRW 0)] : List Value).toArray below meth c H locs 0 0 (Qw below ([.ref (hX 0), .int a1, .int a2, .ref (hRW 0)] : List Value).toArray s D K A (fl [wX K hX (hTab 0) (hProg 0) (hWalk 0) (hWri 0) (hRea 0) (hTP 0) (hGrd 0) (hVAL 0) sX, wTab K hTab sTab', wRow K hRW nRW sRW']) r) (F0 m 0 ls []) from hW s.heap [] hP hS
  clear hP hS
  intro H locs hP hS
  refine lv_aload_n (pc := 0) hx hb d_Law_append_0 rfl (lv_at hl 3 rfl) ?_
  refine lv_iconst (v := 0) (pc := 1) hx hb d_Law_append_1 (by decide) ?_
  refine lv_aload_n (pc := 2) hx hb d_Law_append_2 rfl (lv_at hl 0 rfl) ?_
  refine lv_iload_n (pc := 3) hx hb d_Law_append_3 rfl (lv_at hl 1 rfl) ?_
  refine lv_iload_n (pc := 4) hx hb d_Law_append_4 rfl (lv_at hl 2 rfl) ?_
  obtain ⟨q1, hq1, hf⟩ := o_bd_e hf
  refine fi_t (pc := 5) (run_T (As := [.int a1, .int a2]) (rest := [.int 0, .ref (hRW 0)]) ⟨hx, hb, hml, hown, hts⟩ ((c_X_append l D K htr fu hX hVAL hTab hProg hWalk hWri hRea hTP hGrd sX sTab a1 a2 q1.1 q1.2.1 q1.2.2 hq1) _) (cwV 2 hts (gV tw_766 tw_767 tw_768 tw_1 tw_769) rfl rfl rfl (by decide +kernel) ⟨by decide, by decide⟩) ⟨mPre_blind, va_recv hK hP (ci := 0) rfl (fl_at 0 0 rfl rfl), (mPre_fl hK hF hA hP hD hS [0, 1] rfl rfl)⟩ rfl rfl hl.1 rfl (lv_room (Nat.le_of_ble_eq_true rfl)) d_Law_append_5 ⟨Nat.le_refl _, Nat.le_refl _⟩) hA hP hD hS [0, 1] rfl rfl (fun hx0 H locs hP hD hS => ?_) (fun hx0 H locs aX cX hP hD hS hXc hXo hXk => ?_)
  · replace hf := o_t hx0 hf
    have hP : va_P D vwCl (fl [wX K hX (hTab 0) (hProg 0) (hWalk 0) (hWri 0) (hRea 0) (hTP 0) (hGrd 0) (hVAL 0) sX, wTab K hTab q1.2.2, wRow K hRW nRW sRW]) H := hP
    have hD : va_D A (fl [wX K hX (hTab 0) (hProg 0) (hWalk 0) (hWri 0) (hRea 0) (hTP 0) (hGrd 0) (hVAL 0) sX, wTab K hTab q1.2.2, wRow K hRW nRW sRW]) := hD
    refine W.eq (g2 := F0 m 8 ls [.int q1.2.1, .int 0, .ref (hRW 0)]) rfl ?_
    refine lv_i2l (pc := 8) hx hb d_Law_append_8 rfl ?_
    obtain ⟨hi2, hf⟩ := o_gi_e hf
    refine va_last (D := D) (pc := 9) hx hb hK hP hD hS _ 1 (fl_at 2 0 rfl rfl) rfl hi2 d_Law_append_9 (fun H locs hP hD hS => ?_)
    obtain ⟨sRW_3, esRW_3, hf⟩ := o_lt_e hf
    have hP : va_P D vwCl (fl [wX K hX (hTab 0) (hProg 0) (hWalk 0) (hWri 0) (hRea 0) (hTP 0) (hGrd 0) (hVAL 0) sX, wTab K hTab q1.2.2, wRow K hRW nRW sRW_3]) H := by rw [esRW_3]; exact fl_P 2 0 rfl (Nat.le_of_ble_eq_true rfl) rfl rfl hP
    have hD : va_D A (fl [wX K hX (hTab 0) (hProg 0) (hWalk 0) (hWri 0) (hRea 0) (hTP 0) (hGrd 0) (hVAL 0) sX, wTab K hTab q1.2.2, wRow K hRW nRW sRW_3]) := by rw [esRW_3]; exact fl_D 2 0 rfl (Nat.le_of_ble_eq_true rfl) rfl rfl hD
    refine lv_goto (tgt := 21) (pc := 10) hx hb d_Law_append_10 (by decide) ?_
    refine lv_iconst (v := 0) (pc := 21) hx hb d_Law_append_21 (by decide) ?_
    cases hf
    exact ret_w hx hb hr hlocks hK hP hS d_Law_append_22
  · replace hf := o_f hx0 hf
    have hP : va_P D vwCl (fl [wX K hX (hTab 0) (hProg 0) (hWalk 0) (hWri 0) (hRea 0) (hTP 0) (hGrd 0) (hVAL 0) sX, wTab K hTab q1.2.2, wRow K hRW nRW sRW]) H := hP
    have hD : va_D A (fl [wX K hX (hTab 0) (hProg 0) (hWalk 0) (hWri 0) (hRea 0) (hTP 0) (hGrd 0) (hVAL 0) sX, wTab K hTab q1.2.2, wRow K hRW nRW sRW]) := hD
    rcases Classical.em (q1.1 = 1) with c4 | c4
    · replace hf := o_t c4 hf
      refine ca_W (hp := 13) (hits_1 (cls := "java/lang/IllegalArgumentException") hown htab ⟨by decide, by decide⟩ (by decide) (hts _ (List.mem_cons_of_mem _ tw_674)) (va_Nw.use rfl (hF.2.1.2.2.2.2 _ ck_1)) (by rw [c4, exN_1] at hXk; exact hXk)) (Vm.classAt_of_findClass hXk) hXc hXo ?_
      refine lv_astore (lv' := [(4, .ref aX), (0, .ref (hX 0)), (1, .int a1), (2, .int a2), (3, .ref (hRW 0))]) (pc := 13) hx hb d_Law_append_13 hl (by decide) rfl (fun ls hl => ?_)
      refine lv_iconst (v := 1) (pc := 15) hx hb d_Law_append_15 (by decide) ?_
      cases hf
      exact ret_w hx hb hr hlocks hK hP hS d_Law_append_16
    · replace hf := o_f c4 hf
      rcases Classical.em (q1.1 = 2) with c5 | c5
      · replace hf := o_t c5 hf
        refine ca_W (hp := 17) (hits_2 (cls := "java/lang/IllegalStateException") (cls1 := "java/lang/IllegalArgumentException") hown htab ⟨⟨by decide, by decide⟩, by decide, by decide⟩ ⟨by decide, by decide⟩ (hts _ (List.mem_cons_of_mem _ tw_674)) (hts _ (List.mem_cons_of_mem _ tw_765)) (va_Nw.use rfl (hF.2.1.2.2.2.2 _ ck_2)) (by rw [c5, exN_2] at hXk; exact hXk) (hF.2.1.1 ("java/lang/IllegalStateException", "java/lang/IllegalArgumentException") (by decide))) (Vm.classAt_of_findClass hXk) hXc hXo ?_
        refine lv_astore (lv' := [(4, .ref aX), (0, .ref (hX 0)), (1, .int a1), (2, .int a2), (3, .ref (hRW 0))]) (pc := 17) hx hb d_Law_append_17 hl (by decide) rfl (fun ls hl => ?_)
        refine lv_iconst (v := 2) (pc := 19) hx hb d_Law_append_19 (by decide) ?_
        cases hf
        exact ret_w hx hb hr hlocks hK hP hS d_Law_append_20
      · replace hf := o_f c5 hf
        exact absurd hf (fun h => nomatch h)
def Law_clear (sX : S_X) (a1 : Int32) (sTab : S_Tab) : Option (Int32 × S_Tab) := o_bd (X_clear sX a1 sTab) fun q1 => (if q1.1 = 0 then some ((0, q1.2)) else if q1.1 = 1 then some ((1, q1.2)) else none)
abbrev rm_Law_clear : Room := { frames := 7, cells := 1, slots := 6, locals := 104 }
set_option maxHeartbeats 4000000 in
set_option maxRecDepth 100000 in
theorem c_Law_clear (l : Launch) (D : va_G) (K : Nat → ClassId) (htr : ∀ e : Env, l.admits e → e.platform.stackTraces = false) (hX : Nat → Nat) (hVAL : Nat → Nat) (hTab : Nat → Nat) (hProg : Nat → Nat) (hWalk : Nat → Nat) (hWri : Nat → Nat) (hRea : Nat → Nat) (hTP : Nat → Nat) (hGrd : Nat → Nat) (sX : S_X) (sTab : S_Tab) (a1 : Int32) (r : Int32) (sTab' : S_Tab) (hf : Law_clear sX a1 sTab = some ((r, sTab'))) : mw l D K y_Law_clear ws_Law_clear rm_Law_clear [.ref (hX 0), .int a1] (fl [wX K hX (hTab 0) (hProg 0) (hWalk 0) (hWri 0) (hRea 0) (hTP 0) (hGrd 0) (hVAL 0) sX, wTab K hTab sTab]) (fl [wX K hX (hTab 0) (hProg 0) (hWalk 0) (hWri 0) (hRea 0) (hTP 0) (hGrd 0) (hVAL 0) sX, wTab K hTab sTab']) r := by
  refine mw_of (cc := b_Law_clear) (maxL := 3) (own := "ObsMessagesLaw") (by decide) rfl rfl (Nat.le_of_ble_eq_true rfl) ?_
  intro p e s m below meth c A ls hC htab hP hD hS hl
  obtain ⟨hx, hb, hml, hown, hts, hr, hlocks, hK, hF, hA⟩ := hC
  have hP : va_P D vwCl (fl [wX K hX (hTab 0) (hProg 0) (hWalk 0) (hWri 0) (hRea 0) (hTP 0) (hGrd 0) (hVAL 0) sX, wTab K hTab sTab]) s.heap := hP
  have hl : lv_has ls 3 [(0, .ref (hX 0)), (1, .int a1)] := hl
  suffices hW : ∀ (H : Heap) (locs : List Loc), va_P D vwCl (fl [wX K hX (hTab 0) (hProg 0) (hWalk 0) (hWri 0) (hRea 0) (hTP 0) (hGrd 0) (hVAL 0) sX, wTab K hTab sTab]) H → va_S A s.heap H locs → W p l e rm_Law_clear s m ([.ref (hX 0), .int a1] : List Value).toArray below meth c H locs 0 0 (Qw below ([.ref (hX 0), .int a1] : List Value).toArray s D K A (fl [wX K hX (hTab 0) (hProg 0) (hWalk 0) (hWri 0) (hRea 0) (hTP 0) (hGrd 0) (hVAL 0) sX, wTab K hTab sTab']) r) (F0 m 0 ls []) from hW s.heap [] hP hS
  clear hP hS
  intro H locs hP hS
  refine lv_aload_n (pc := 0) hx hb d_Law_clear_0 rfl (lv_at hl 0 rfl) ?_
  refine lv_iload_n (pc := 1) hx hb d_Law_clear_1 rfl (lv_at hl 1 rfl) ?_
  obtain ⟨q1, hq1, hf⟩ := o_bd_e hf
  refine fi_t (pc := 2) (run_T (As := [.int a1]) (rest := []) ⟨hx, hb, hml, hown, hts⟩ ((c_X_clear l D K htr hX hVAL hTab hProg hWalk hWri hRea hTP hGrd sX sTab a1 q1.1 q1.2 hq1) _) (cwV 1 hts (gV tw_811 tw_812 tw_813 tw_1 tw_814) rfl rfl rfl (by decide +kernel) ⟨by decide, by decide⟩) ⟨mPre_blind, va_recv hK hP (ci := 0) rfl (fl_at 0 0 rfl rfl), (mPre_fl hK hF hA hP hD hS [0, 1] rfl rfl)⟩ rfl rfl hl.1 rfl (lv_room (Nat.le_of_ble_eq_true rfl)) d_Law_clear_2 ⟨Nat.le_refl _, Nat.le_refl _⟩) hA hP hD hS [0, 1] rfl rfl (fun hx0 H locs hP hD hS => ?_) (fun hx0 H locs aX cX hP hD hS hXc hXo hXk => ?_)
  · replace hf := o_t hx0 hf
    have hP : va_P D vwCl (fl [wX K hX (hTab 0) (hProg 0) (hWalk 0) (hWri 0) (hRea 0) (hTP 0) (hGrd 0) (hVAL 0) sX, wTab K hTab q1.2]) H := hP
    have hD : va_D A (fl [wX K hX (hTab 0) (hProg 0) (hWalk 0) (hWri 0) (hRea 0) (hTP 0) (hGrd 0) (hVAL 0) sX, wTab K hTab q1.2]) := hD
    refine W.eq (g2 := F0 m 5 ls []) rfl ?_
    refine lv_goto (tgt := 11) (pc := 5) hx hb d_Law_clear_5 (by decide) ?_
    refine lv_iconst (v := 0) (pc := 11) hx hb d_Law_clear_11 (by decide) ?_
    cases hf
    exact ret_w hx hb hr hlocks hK hP hS d_Law_clear_12
  · replace hf := o_f hx0 hf
    have hP : va_P D vwCl (fl [wX K hX (hTab 0) (hProg 0) (hWalk 0) (hWri 0) (hRea 0) (hTP 0) (hGrd 0) (hVAL 0) sX, wTab K hTab q1.2]) H := hP
    have hD : va_D A (fl [wX K hX (hTab 0) (hProg 0) (hWalk 0) (hWri 0) (hRea 0) (hTP 0) (hGrd 0) (hVAL 0) sX, wTab K hTab q1.2]) := hD
    rcases Classical.em (q1.1 = 1) with c2 | c2
    · replace hf := o_t c2 hf
      refine ca_W (hp := 8) (hits_1 (cls := "java/lang/IllegalArgumentException") hown htab ⟨by decide, by decide⟩ (by decide) (hts _ (List.mem_cons_of_mem _ tw_674)) (va_Nw.use rfl (hF.2.1.2.2.2.2 _ ck_1)) (by rw [c2, exN_1] at hXk; exact hXk)) (Vm.classAt_of_findClass hXk) hXc hXo ?_
      refine lv_astore_n (lv' := [(2, .ref aX), (0, .ref (hX 0)), (1, .int a1)]) (pc := 8) hx hb d_Law_clear_8 rfl hl (by decide) rfl (fun ls hl => ?_)
      refine lv_iconst (v := 1) (pc := 9) hx hb d_Law_clear_9 (by decide) ?_
      cases hf
      exact ret_w hx hb hr hlocks hK hP hS d_Law_clear_10
    · replace hf := o_f c2 hf
      exact absurd hf (fun h => nomatch h)
def Law_compile (fu : Nat) (nRW : Nat) (sTab : S_Tab) (sX : S_X) (sProg : S_Prog) (sRW : (Nat → Int64)) : Option (Int32 × S_X × S_Prog × (Nat → Int64)) := o_bd (X_compile fu sTab sX sProg) fun q1 => (if q1.1 = 0 then o_gd (o_in 0 nRW) (o_lt (vp_updL sRW (0 : Int32).toNatClampNeg ((q1.2.1 : Int32).toInt64)) fun sRW_3 => (some ((0, q1.2.2.1, q1.2.2.2, sRW_3)))) else if q1.1 = 1 then some ((1, q1.2.2.1, q1.2.2.2, sRW)) else none)
abbrev rm_Law_compile : Room := { frames := 7, cells := 1, slots := 6, locals := 184 }
set_option maxHeartbeats 4000000 in
set_option maxRecDepth 100000 in
theorem c_Law_compile (l : Launch) (D : va_G) (K : Nat → ClassId) (htr : ∀ e : Env, l.admits e → e.platform.stackTraces = false) (fu : Nat) (hX : Nat → Nat) (hVAL : Nat → Nat) (hTab : Nat → Nat) (hProg : Nat → Nat) (hWalk : Nat → Nat) (hWri : Nat → Nat) (hRea : Nat → Nat) (hTP : Nat → Nat) (hGrd : Nat → Nat) (hRW : Nat → Nat) (nRW : Nat) (sX : S_X) (sTab : S_Tab) (sProg : S_Prog) (sRW : (Nat → Int64)) (r : Int32) (sX' : S_X) (sProg' : S_Prog) (sRW' : (Nat → Int64)) (hf : Law_compile fu nRW sTab sX sProg sRW = some ((r, sX', sProg', sRW'))) : mw l D K y_Law_compile ws_Law_compile rm_Law_compile [.ref (hX 0), .ref (hRW 0)] (fl [wX K hX (hTab 0) (hProg 0) (hWalk 0) (hWri 0) (hRea 0) (hTP 0) (hGrd 0) (hVAL 0) sX, wTab K hTab sTab, wProg K hProg (hTab 0) sProg, wRow K hRW nRW sRW]) (fl [wX K hX (hTab 0) (hProg 0) (hWalk 0) (hWri 0) (hRea 0) (hTP 0) (hGrd 0) (hVAL 0) sX', wTab K hTab sTab, wProg K hProg (hTab 0) sProg', wRow K hRW nRW sRW']) r := by
  refine mw_of (cc := b_Law_compile) (maxL := 3) (own := "ObsMessagesLaw") (by decide) rfl rfl (Nat.le_of_ble_eq_true rfl) ?_
  intro p e s m below meth c A ls hC htab hP hD hS hl
  obtain ⟨hx, hb, hml, hown, hts, hr, hlocks, hK, hF, hA⟩ := hC
  have hP : va_P D vwCl (fl [wX K hX (hTab 0) (hProg 0) (hWalk 0) (hWri 0) (hRea 0) (hTP 0) (hGrd 0) (hVAL 0) sX, wTab K hTab sTab, wProg K hProg (hTab 0) sProg, wRow K hRW nRW sRW]) s.heap := hP
  have hl : lv_has ls 3 [(0, .ref (hX 0)), (1, .ref (hRW 0))] := hl
  suffices hW : ∀ (H : Heap) (locs : List Loc), va_P D vwCl (fl [wX K hX (hTab 0) (hProg 0) (hWalk 0) (hWri 0) (hRea 0) (hTP 0) (hGrd 0) (hVAL 0) sX, wTab K hTab sTab, wProg K hProg (hTab 0) sProg, wRow K hRW nRW sRW]) H → va_S A s.heap H locs → W p l e rm_Law_compile s m ([.ref (hX 0), .ref (hRW 0)] : List Value).toArray below meth c H locs 0 0 (Qw below ([.ref (hX 0), .ref (hRW 0)] : List Value).toArray s D K A (fl [wX K hX (hTab 0) (hProg 0) (hWalk 0) (hWri 0) (hRea 0) (hTP 0) (hGrd 0) (hVAL 0) sX', wTab K hTab sTab, wProg K hProg (hTab 0) sProg', wRow K hRW nRW sRW']) r) (F0 m 0 ls []) from hW s.heap [] hP hS
  clear hP hS
  intro H locs hP hS
  refine lv_aload_n (pc := 0) hx hb d_Law_compile_0 rfl (lv_at hl 1 rfl) ?_
  refine lv_iconst (v := 0) (pc := 1) hx hb d_Law_compile_1 (by decide) ?_
  refine lv_aload_n (pc := 2) hx hb d_Law_compile_2 rfl (lv_at hl 0 rfl) ?_
  obtain ⟨q1, hq1, hf⟩ := o_bd_e hf
  refine fi_t (pc := 3) (run_T (As := []) (rest := [.int 0, .ref (hRW 0)]) ⟨hx, hb, hml, hown, hts⟩ ((c_X_compile l D K htr fu hX hVAL hTab hProg hWalk hWri hRea hTP hGrd sX sTab sProg q1.1 q1.2.1 q1.2.2.1 q1.2.2.2 hq1) _) (cwV 0 hts (gV tw_819 tw_820 tw_821 tw_1 tw_822) rfl rfl rfl (by decide +kernel) ⟨by decide, by decide⟩) ⟨mPre_blind, va_recv hK hP (ci := 0) rfl (fl_at 0 0 rfl rfl), (mPre_fl hK hF hA hP hD hS [0, 1, 2] rfl rfl)⟩ rfl rfl hl.1 rfl (lv_room (Nat.le_of_ble_eq_true rfl)) d_Law_compile_3 ⟨Nat.le_refl _, Nat.le_refl _⟩) hA hP hD hS [0, 1, 2] rfl rfl (fun hx0 H locs hP hD hS => ?_) (fun hx0 H locs aX cX hP hD hS hXc hXo hXk => ?_)
  · replace hf := o_t hx0 hf
    have hP : va_P D vwCl (fl [wX K hX (hTab 0) (hProg 0) (hWalk 0) (hWri 0) (hRea 0) (hTP 0) (hGrd 0) (hVAL 0) q1.2.2.1, wTab K hTab sTab, wProg K hProg (hTab 0) q1.2.2.2, wRow K hRW nRW sRW]) H := hP
    have hD : va_D A (fl [wX K hX (hTab 0) (hProg 0) (hWalk 0) (hWri 0) (hRea 0) (hTP 0) (hGrd 0) (hVAL 0) q1.2.2.1, wTab K hTab sTab, wProg K hProg (hTab 0) q1.2.2.2, wRow K hRW nRW sRW]) := hD
    refine W.eq (g2 := F0 m 6 ls [.int q1.2.1, .int 0, .ref (hRW 0)]) rfl ?_
    refine lv_i2l (pc := 6) hx hb d_Law_compile_6 rfl ?_
    obtain ⟨hi2, hf⟩ := o_gi_e hf
    refine va_last (D := D) (pc := 7) hx hb hK hP hD hS _ 1 (fl_at 3 0 rfl rfl) rfl hi2 d_Law_compile_7 (fun H locs hP hD hS => ?_)
    obtain ⟨sRW_3, esRW_3, hf⟩ := o_lt_e hf
    have hP : va_P D vwCl (fl [wX K hX (hTab 0) (hProg 0) (hWalk 0) (hWri 0) (hRea 0) (hTP 0) (hGrd 0) (hVAL 0) q1.2.2.1, wTab K hTab sTab, wProg K hProg (hTab 0) q1.2.2.2, wRow K hRW nRW sRW_3]) H := by rw [esRW_3]; exact fl_P 3 0 rfl (Nat.le_of_ble_eq_true rfl) rfl rfl hP
    have hD : va_D A (fl [wX K hX (hTab 0) (hProg 0) (hWalk 0) (hWri 0) (hRea 0) (hTP 0) (hGrd 0) (hVAL 0) q1.2.2.1, wTab K hTab sTab, wProg K hProg (hTab 0) q1.2.2.2, wRow K hRW nRW sRW_3]) := by rw [esRW_3]; exact fl_D 3 0 rfl (Nat.le_of_ble_eq_true rfl) rfl rfl hD
    refine lv_goto (tgt := 14) (pc := 8) hx hb d_Law_compile_8 (by decide) ?_
    refine lv_iconst (v := 0) (pc := 14) hx hb d_Law_compile_14 (by decide) ?_
    cases hf
    exact ret_w hx hb hr hlocks hK hP hS d_Law_compile_15
  · replace hf := o_f hx0 hf
    have hP : va_P D vwCl (fl [wX K hX (hTab 0) (hProg 0) (hWalk 0) (hWri 0) (hRea 0) (hTP 0) (hGrd 0) (hVAL 0) q1.2.2.1, wTab K hTab sTab, wProg K hProg (hTab 0) q1.2.2.2, wRow K hRW nRW sRW]) H := hP
    have hD : va_D A (fl [wX K hX (hTab 0) (hProg 0) (hWalk 0) (hWri 0) (hRea 0) (hTP 0) (hGrd 0) (hVAL 0) q1.2.2.1, wTab K hTab sTab, wProg K hProg (hTab 0) q1.2.2.2, wRow K hRW nRW sRW]) := hD
    rcases Classical.em (q1.1 = 1) with c4 | c4
    · replace hf := o_t c4 hf
      refine ca_W (hp := 11) (hits_1 (cls := "java/lang/IllegalArgumentException") hown htab ⟨by decide, by decide⟩ (by decide) (hts _ (List.mem_cons_of_mem _ tw_674)) (va_Nw.use rfl (hF.2.1.2.2.2.2 _ ck_1)) (by rw [c4, exN_1] at hXk; exact hXk)) (Vm.classAt_of_findClass hXk) hXc hXo ?_
      refine lv_astore_n (lv' := [(2, .ref aX), (0, .ref (hX 0)), (1, .ref (hRW 0))]) (pc := 11) hx hb d_Law_compile_11 rfl hl (by decide) rfl (fun ls hl => ?_)
      refine lv_iconst (v := 1) (pc := 12) hx hb d_Law_compile_12 (by decide) ?_
      cases hf
      exact ret_w hx hb hr hlocks hK hP hS d_Law_compile_13
    · replace hf := o_f c4 hf
      exact absurd hf (fun h => nomatch h)
def Law_put (sX : S_X) (a1 : Int32) (a2 : Int32) (a3 : Int64) (sVAL : (Nat → Nat → Int64)) : Option (Int32 × (Nat → Nat → Int64)) := o_bd (X_put sX a1 a2 a3 sVAL) fun q1 => (if q1.1 = 0 then some ((0, q1.2)) else if q1.1 = 3 then some ((1, q1.2)) else none)
abbrev rm_Law_put : Room := { frames := 7, cells := 1, slots := 6, locals := 106 }
set_option maxHeartbeats 4000000 in
set_option maxRecDepth 100000 in
theorem c_Law_put (l : Launch) (D : va_G) (K : Nat → ClassId) (htr : ∀ e : Env, l.admits e → e.platform.stackTraces = false) (hX : Nat → Nat) (hVAL : Nat → Nat) (hTab : Nat → Nat) (hProg : Nat → Nat) (hWalk : Nat → Nat) (hWri : Nat → Nat) (hRea : Nat → Nat) (hTP : Nat → Nat) (hGrd : Nat → Nat) (sX : S_X) (sVAL : (Nat → Nat → Int64)) (a1 : Int32) (a2 : Int32) (a3 : Int64) (r : Int32) (sVAL' : (Nat → Nat → Int64)) (hf : Law_put sX a1 a2 a3 sVAL = some ((r, sVAL'))) : mw l D K y_Law_put ws_Law_put rm_Law_put [.ref (hX 0), .int a1, .int a2, .long a3] (fl [wX K hX (hTab 0) (hProg 0) (hWalk 0) (hWri 0) (hRea 0) (hTP 0) (hGrd 0) (hVAL 0) sX, wGO K hVAL, wRow K (fun _ => hVAL 1) 100 (sVAL 0), wRow K (fun _ => hVAL 2) 100 (sVAL 1), wRow K (fun _ => hVAL 3) 100 (sVAL 2), wRow K (fun _ => hVAL 4) 100 (sVAL 3), wRow K (fun _ => hVAL 5) 100 (sVAL 4), wRow K (fun _ => hVAL 6) 100 (sVAL 5), wRow K (fun _ => hVAL 7) 100 (sVAL 6), wRow K (fun _ => hVAL 8) 100 (sVAL 7)]) (fl [wX K hX (hTab 0) (hProg 0) (hWalk 0) (hWri 0) (hRea 0) (hTP 0) (hGrd 0) (hVAL 0) sX, wGO K hVAL, wRow K (fun _ => hVAL 1) 100 (sVAL' 0), wRow K (fun _ => hVAL 2) 100 (sVAL' 1), wRow K (fun _ => hVAL 3) 100 (sVAL' 2), wRow K (fun _ => hVAL 4) 100 (sVAL' 3), wRow K (fun _ => hVAL 5) 100 (sVAL' 4), wRow K (fun _ => hVAL 6) 100 (sVAL' 5), wRow K (fun _ => hVAL 7) 100 (sVAL' 6), wRow K (fun _ => hVAL 8) 100 (sVAL' 7)]) r := by
  refine mw_of (cc := b_Law_put) (maxL := 6) (own := "ObsMessagesLaw") (by decide) rfl rfl (Nat.le_of_ble_eq_true rfl) ?_
  intro p e s m below meth c A ls hC htab hP hD hS hl
  obtain ⟨hx, hb, hml, hown, hts, hr, hlocks, hK, hF, hA⟩ := hC
  have hP : va_P D vwCl (fl [wX K hX (hTab 0) (hProg 0) (hWalk 0) (hWri 0) (hRea 0) (hTP 0) (hGrd 0) (hVAL 0) sX, wGO K hVAL, wRow K (fun _ => hVAL 1) 100 (sVAL 0), wRow K (fun _ => hVAL 2) 100 (sVAL 1), wRow K (fun _ => hVAL 3) 100 (sVAL 2), wRow K (fun _ => hVAL 4) 100 (sVAL 3), wRow K (fun _ => hVAL 5) 100 (sVAL 4), wRow K (fun _ => hVAL 6) 100 (sVAL 5), wRow K (fun _ => hVAL 7) 100 (sVAL 6), wRow K (fun _ => hVAL 8) 100 (sVAL 7)]) s.heap := hP
  have hl : lv_has ls 6 [(0, .ref (hX 0)), (1, .int a1), (2, .int a2), (3, .long a3)] := hl
  suffices hW : ∀ (H : Heap) (locs : List Loc), va_P D vwCl (fl [wX K hX (hTab 0) (hProg 0) (hWalk 0) (hWri 0) (hRea 0) (hTP 0) (hGrd 0) (hVAL 0) sX, wGO K hVAL, wRow K (fun _ => hVAL 1) 100 (sVAL 0), wRow K (fun _ => hVAL 2) 100 (sVAL 1), wRow K (fun _ => hVAL 3) 100 (sVAL 2), wRow K (fun _ => hVAL 4) 100 (sVAL 3), wRow K (fun _ => hVAL 5) 100 (sVAL 4), wRow K (fun _ => hVAL 6) 100 (sVAL 5), wRow K (fun _ => hVAL 7) 100 (sVAL 6), wRow K (fun _ => hVAL 8) 100 (sVAL 7)]) H → va_S A s.heap H locs → W p l e rm_Law_put s m ([.ref (hX 0), .int a1, .int a2, .long a3] : List Value).toArray below meth c H locs 0 0 (Qw below ([.ref (hX 0), .int a1, .int a2, .long a3] : List Value).toArray s D K A (fl [wX K hX (hTab 0) (hProg 0) (hWalk 0) (hWri 0) (hRea 0) (hTP 0) (hGrd 0) (hVAL 0) sX, wGO K hVAL, wRow K (fun _ => hVAL 1) 100 (sVAL' 0), wRow K (fun _ => hVAL 2) 100 (sVAL' 1), wRow K (fun _ => hVAL 3) 100 (sVAL' 2), wRow K (fun _ => hVAL 4) 100 (sVAL' 3), wRow K (fun _ => hVAL 5) 100 (sVAL' 4), wRow K (fun _ => hVAL 6) 100 (sVAL' 5), wRow K (fun _ => hVAL 7) 100 (sVAL' 6), wRow K (fun _ => hVAL 8) 100 (sVAL' 7)]) r) (F0 m 0 ls []) from hW s.heap [] hP hS
  clear hP hS
  intro H locs hP hS
  refine lv_aload_n (pc := 0) hx hb d_Law_put_0 rfl (lv_at hl 0 rfl) ?_
  refine lv_iload_n (pc := 1) hx hb d_Law_put_1 rfl (lv_at hl 1 rfl) ?_
  refine lv_iload_n (pc := 2) hx hb d_Law_put_2 rfl (lv_at hl 2 rfl) ?_
  refine lv_lload_n (pc := 3) hx hb d_Law_put_3 rfl (lv_at hl 3 rfl) ?_
  obtain ⟨q1, hq1, hf⟩ := o_bd_e hf
  refine fi_t (pc := 4) (run_T (As := [.int a1, .int a2, .long a3]) (rest := []) ⟨hx, hb, hml, hown, hts⟩ ((c_X_put l D K htr hX hVAL hTab hProg hWalk hWri hRea hTP hGrd sX sVAL a1 a2 a3 q1.1 q1.2 hq1) _) (cwV 3 hts (gV tw_836 tw_837 tw_838 tw_1 tw_839) rfl rfl rfl (by decide +kernel) ⟨by decide, by decide⟩) ⟨mPre_blind, va_recv hK hP (ci := 0) rfl (fl_at 0 0 rfl rfl), (mPre_fl hK hF hA hP hD hS [0, 1, 2, 3, 4, 5, 6, 7, 8, 9] rfl rfl)⟩ rfl rfl hl.1 rfl (lv_room (Nat.le_of_ble_eq_true rfl)) d_Law_put_4 ⟨Nat.le_refl _, Nat.le_refl _⟩) hA hP hD hS [0, 1, 2, 3, 4, 5, 6, 7, 8, 9] rfl rfl (fun hx0 H locs hP hD hS => ?_) (fun hx0 H locs aX cX hP hD hS hXc hXo hXk => ?_)
  · replace hf := o_t hx0 hf
    have hP : va_P D vwCl (fl [wX K hX (hTab 0) (hProg 0) (hWalk 0) (hWri 0) (hRea 0) (hTP 0) (hGrd 0) (hVAL 0) sX, wGO K hVAL, wRow K (fun _ => hVAL 1) 100 (q1.2 0), wRow K (fun _ => hVAL 2) 100 (q1.2 1), wRow K (fun _ => hVAL 3) 100 (q1.2 2), wRow K (fun _ => hVAL 4) 100 (q1.2 3), wRow K (fun _ => hVAL 5) 100 (q1.2 4), wRow K (fun _ => hVAL 6) 100 (q1.2 5), wRow K (fun _ => hVAL 7) 100 (q1.2 6), wRow K (fun _ => hVAL 8) 100 (q1.2 7)]) H := hP
    have hD : va_D A (fl [wX K hX (hTab 0) (hProg 0) (hWalk 0) (hWri 0) (hRea 0) (hTP 0) (hGrd 0) (hVAL 0) sX, wGO K hVAL, wRow K (fun _ => hVAL 1) 100 (q1.2 0), wRow K (fun _ => hVAL 2) 100 (q1.2 1), wRow K (fun _ => hVAL 3) 100 (q1.2 2), wRow K (fun _ => hVAL 4) 100 (q1.2 3), wRow K (fun _ => hVAL 5) 100 (q1.2 4), wRow K (fun _ => hVAL 6) 100 (q1.2 5), wRow K (fun _ => hVAL 7) 100 (q1.2 6), wRow K (fun _ => hVAL 8) 100 (q1.2 7)]) := hD
    refine W.eq (g2 := F0 m 7 ls []) rfl ?_
    refine lv_goto (tgt := 14) (pc := 7) hx hb d_Law_put_7 (by decide) ?_
    refine lv_iconst (v := 0) (pc := 14) hx hb d_Law_put_14 (by decide) ?_
    cases hf
    exact ret_w hx hb hr hlocks hK hP hS d_Law_put_15
  · replace hf := o_f hx0 hf
    have hP : va_P D vwCl (fl [wX K hX (hTab 0) (hProg 0) (hWalk 0) (hWri 0) (hRea 0) (hTP 0) (hGrd 0) (hVAL 0) sX, wGO K hVAL, wRow K (fun _ => hVAL 1) 100 (q1.2 0), wRow K (fun _ => hVAL 2) 100 (q1.2 1), wRow K (fun _ => hVAL 3) 100 (q1.2 2), wRow K (fun _ => hVAL 4) 100 (q1.2 3), wRow K (fun _ => hVAL 5) 100 (q1.2 4), wRow K (fun _ => hVAL 6) 100 (q1.2 5), wRow K (fun _ => hVAL 7) 100 (q1.2 6), wRow K (fun _ => hVAL 8) 100 (q1.2 7)]) H := hP
    have hD : va_D A (fl [wX K hX (hTab 0) (hProg 0) (hWalk 0) (hWri 0) (hRea 0) (hTP 0) (hGrd 0) (hVAL 0) sX, wGO K hVAL, wRow K (fun _ => hVAL 1) 100 (q1.2 0), wRow K (fun _ => hVAL 2) 100 (q1.2 1), wRow K (fun _ => hVAL 3) 100 (q1.2 2), wRow K (fun _ => hVAL 4) 100 (q1.2 3), wRow K (fun _ => hVAL 5) 100 (q1.2 4), wRow K (fun _ => hVAL 6) 100 (q1.2 5), wRow K (fun _ => hVAL 7) 100 (q1.2 6), wRow K (fun _ => hVAL 8) 100 (q1.2 7)]) := hD
    rcases Classical.em (q1.1 = 3) with c2 | c2
    · replace hf := o_t c2 hf
      refine ca_W (hp := 10) (hits_1 (cls := "java/lang/IndexOutOfBoundsException") hown htab ⟨by decide, by decide⟩ (by decide) (hts _ (List.mem_cons_of_mem _ tw_835)) (va_Nw.use rfl (hF.2.1.2.2.2.2 _ ck_3)) (by rw [c2, exN_3] at hXk; exact hXk)) (Vm.classAt_of_findClass hXk) hXc hXo ?_
      refine lv_astore (lv' := [(5, .ref aX), (0, .ref (hX 0)), (1, .int a1), (2, .int a2), (3, .long a3)]) (pc := 10) hx hb d_Law_put_10 hl (by decide) rfl (fun ls hl => ?_)
      refine lv_iconst (v := 1) (pc := 12) hx hb d_Law_put_12 (by decide) ?_
      cases hf
      exact ret_w hx hb hr hlocks hK hP hS d_Law_put_13
    · replace hf := o_f c2 hf
      exact absurd hf (fun h => nomatch h)
def Law_get (nRW : Nat) (sX : S_X) (sVAL : (Nat → Nat → Int64)) (a1 : Int32) (a2 : Int32) (sRW : (Nat → Int64)) : Option (Int32 × (Nat → Int64)) := o_bd (X_get sX sVAL a1 a2) fun q1 => (if q1.1 = 0 then o_gd (o_in 0 nRW) (o_lt (vp_updL sRW (0 : Int32).toNatClampNeg q1.2) fun sRW_3 => (some ((0, sRW_3)))) else if q1.1 = 3 then some ((1, sRW)) else none)
abbrev rm_Law_get : Room := { frames := 7, cells := 1, slots := 6, locals := 104 }
set_option maxHeartbeats 4000000 in
set_option maxRecDepth 100000 in
theorem c_Law_get (l : Launch) (D : va_G) (K : Nat → ClassId) (htr : ∀ e : Env, l.admits e → e.platform.stackTraces = false) (hX : Nat → Nat) (hVAL : Nat → Nat) (hTab : Nat → Nat) (hProg : Nat → Nat) (hWalk : Nat → Nat) (hWri : Nat → Nat) (hRea : Nat → Nat) (hTP : Nat → Nat) (hGrd : Nat → Nat) (hRW : Nat → Nat) (nRW : Nat) (sX : S_X) (sVAL : (Nat → Nat → Int64)) (sRW : (Nat → Int64)) (a1 : Int32) (a2 : Int32) (r : Int32) (sRW' : (Nat → Int64)) (hf : Law_get nRW sX sVAL a1 a2 sRW = some ((r, sRW'))) : mw l D K y_Law_get ws_Law_get rm_Law_get [.ref (hX 0), .int a1, .int a2, .ref (hRW 0)] (fl [wX K hX (hTab 0) (hProg 0) (hWalk 0) (hWri 0) (hRea 0) (hTP 0) (hGrd 0) (hVAL 0) sX, wGO K hVAL, wRow K (fun _ => hVAL 1) 100 (sVAL 0), wRow K (fun _ => hVAL 2) 100 (sVAL 1), wRow K (fun _ => hVAL 3) 100 (sVAL 2), wRow K (fun _ => hVAL 4) 100 (sVAL 3), wRow K (fun _ => hVAL 5) 100 (sVAL 4), wRow K (fun _ => hVAL 6) 100 (sVAL 5), wRow K (fun _ => hVAL 7) 100 (sVAL 6), wRow K (fun _ => hVAL 8) 100 (sVAL 7), wRow K hRW nRW sRW]) (fl [wX K hX (hTab 0) (hProg 0) (hWalk 0) (hWri 0) (hRea 0) (hTP 0) (hGrd 0) (hVAL 0) sX, wGO K hVAL, wRow K (fun _ => hVAL 1) 100 (sVAL 0), wRow K (fun _ => hVAL 2) 100 (sVAL 1), wRow K (fun _ => hVAL 3) 100 (sVAL 2), wRow K (fun _ => hVAL 4) 100 (sVAL 3), wRow K (fun _ => hVAL 5) 100 (sVAL 4), wRow K (fun _ => hVAL 6) 100 (sVAL 5), wRow K (fun _ => hVAL 7) 100 (sVAL 6), wRow K (fun _ => hVAL 8) 100 (sVAL 7), wRow K hRW nRW sRW']) r := by
  refine mw_of (cc := b_Law_get) (maxL := 5) (own := "ObsMessagesLaw") (by decide) rfl rfl (Nat.le_of_ble_eq_true rfl) ?_
  intro p e s m below meth c A ls hC htab hP hD hS hl
  obtain ⟨hx, hb, hml, hown, hts, hr, hlocks, hK, hF, hA⟩ := hC
  have hP : va_P D vwCl (fl [wX K hX (hTab 0) (hProg 0) (hWalk 0) (hWri 0) (hRea 0) (hTP 0) (hGrd 0) (hVAL 0) sX, wGO K hVAL, wRow K (fun _ => hVAL 1) 100 (sVAL 0), wRow K (fun _ => hVAL 2) 100 (sVAL 1), wRow K (fun _ => hVAL 3) 100 (sVAL 2), wRow K (fun _ => hVAL 4) 100 (sVAL 3), wRow K (fun _ => hVAL 5) 100 (sVAL 4), wRow K (fun _ => hVAL 6) 100 (sVAL 5), wRow K (fun _ => hVAL 7) 100 (sVAL 6), wRow K (fun _ => hVAL 8) 100 (sVAL 7), wRow K hRW nRW sRW]) s.heap := hP
  have hl : lv_has ls 5 [(0, .ref (hX 0)), (1, .int a1), (2, .int a2), (3, .ref (hRW 0))] := hl
  suffices hW : ∀ (H : Heap) (locs : List Loc), va_P D vwCl (fl [wX K hX (hTab 0) (hProg 0) (hWalk 0) (hWri 0) (hRea 0) (hTP 0) (hGrd 0) (hVAL 0) sX, wGO K hVAL, wRow K (fun _ => hVAL 1) 100 (sVAL 0), wRow K (fun _ => hVAL 2) 100 (sVAL 1), wRow K (fun _ => hVAL 3) 100 (sVAL 2), wRow K (fun _ => hVAL 4) 100 (sVAL 3), wRow K (fun _ => hVAL 5) 100 (sVAL 4), wRow K (fun _ => hVAL 6) 100 (sVAL 5), wRow K (fun _ => hVAL 7) 100 (sVAL 6), wRow K (fun _ => hVAL 8) 100 (sVAL 7), wRow K hRW nRW sRW]) H → va_S A s.heap H locs → W p l e rm_Law_get s m ([.ref (hX 0), .int a1, .int a2, .ref (hRW 0)] : List Value).toArray below meth c H locs 0 0 (Qw below ([.ref (hX 0), .int a1, .int a2, .ref (hRW 0)] : List Value).toArray s D K A (fl [wX K hX (hTab 0) (hProg 0) (hWalk 0) (hWri 0) (hRea 0) (hTP 0) (hGrd 0) (hVAL 0) sX, wGO K hVAL, wRow K (fun _ => hVAL 1) 100 (sVAL 0), wRow K (fun _ => hVAL 2) 100 (sVAL 1), wRow K (fun _ => hVAL 3) 100 (sVAL 2), wRow K (fun _ => hVAL 4) 100 (sVAL 3), wRow K (fun _ => hVAL 5) 100 (sVAL 4), wRow K (fun _ => hVAL 6) 100 (sVAL 5), wRow K (fun _ => hVAL 7) 100 (sVAL 6), wRow K (fun _ => hVAL 8) 100 (sVAL 7), wRow K hRW nRW sRW']) r) (F0 m 0 ls []) from hW s.heap [] hP hS
  clear hP hS
  intro H locs hP hS
  refine lv_aload_n (pc := 0) hx hb d_Law_get_0 rfl (lv_at hl 3 rfl) ?_
  refine lv_iconst (v := 0) (pc := 1) hx hb d_Law_get_1 (by decide) ?_
  refine lv_aload_n (pc := 2) hx hb d_Law_get_2 rfl (lv_at hl 0 rfl) ?_
  refine lv_iload_n (pc := 3) hx hb d_Law_get_3 rfl (lv_at hl 1 rfl) ?_
  refine lv_iload_n (pc := 4) hx hb d_Law_get_4 rfl (lv_at hl 2 rfl) ?_
  obtain ⟨q1, hq1, hf⟩ := o_bd_e hf
  refine fi_t (pc := 5) (run_T (As := [.int a1, .int a2]) (rest := [.int 0, .ref (hRW 0)]) ⟨hx, hb, hml, hown, hts⟩ ((c_X_get l D K htr hX hVAL hTab hProg hWalk hWri hRea hTP hGrd sX sVAL a1 a2 q1.1 q1.2 hq1) _) (cwV 2 hts (gV tw_862 tw_863 tw_864 tw_1 tw_865) rfl rfl rfl (by decide +kernel) ⟨by decide, by decide⟩) ⟨mPre_blind, va_recv hK hP (ci := 0) rfl (fl_at 0 0 rfl rfl), (mPre_fl hK hF hA hP hD hS [0, 1, 2, 3, 4, 5, 6, 7, 8, 9] rfl rfl)⟩ rfl rfl hl.1 rfl (lv_room (Nat.le_of_ble_eq_true rfl)) d_Law_get_5 ⟨Nat.le_refl _, Nat.le_refl _⟩) hA hP hD hS [0, 1, 2, 3, 4, 5, 6, 7, 8, 9] rfl rfl (fun hx0 H locs hP hD hS => ?_) (fun hx0 H locs aX cX hP hD hS hXc hXo hXk => ?_)
  · replace hf := o_t hx0 hf
    have hP : va_P D vwCl (fl [wX K hX (hTab 0) (hProg 0) (hWalk 0) (hWri 0) (hRea 0) (hTP 0) (hGrd 0) (hVAL 0) sX, wGO K hVAL, wRow K (fun _ => hVAL 1) 100 (sVAL 0), wRow K (fun _ => hVAL 2) 100 (sVAL 1), wRow K (fun _ => hVAL 3) 100 (sVAL 2), wRow K (fun _ => hVAL 4) 100 (sVAL 3), wRow K (fun _ => hVAL 5) 100 (sVAL 4), wRow K (fun _ => hVAL 6) 100 (sVAL 5), wRow K (fun _ => hVAL 7) 100 (sVAL 6), wRow K (fun _ => hVAL 8) 100 (sVAL 7), wRow K hRW nRW sRW]) H := hP
    have hD : va_D A (fl [wX K hX (hTab 0) (hProg 0) (hWalk 0) (hWri 0) (hRea 0) (hTP 0) (hGrd 0) (hVAL 0) sX, wGO K hVAL, wRow K (fun _ => hVAL 1) 100 (sVAL 0), wRow K (fun _ => hVAL 2) 100 (sVAL 1), wRow K (fun _ => hVAL 3) 100 (sVAL 2), wRow K (fun _ => hVAL 4) 100 (sVAL 3), wRow K (fun _ => hVAL 5) 100 (sVAL 4), wRow K (fun _ => hVAL 6) 100 (sVAL 5), wRow K (fun _ => hVAL 7) 100 (sVAL 6), wRow K (fun _ => hVAL 8) 100 (sVAL 7), wRow K hRW nRW sRW]) := hD
    refine W.eq (g2 := F0 m 8 ls [.long q1.2, .int 0, .ref (hRW 0)]) rfl ?_
    obtain ⟨hi2, hf⟩ := o_gi_e hf
    refine va_last (D := D) (pc := 8) hx hb hK hP hD hS _ 1 (fl_at 10 0 rfl rfl) rfl hi2 d_Law_get_8 (fun H locs hP hD hS => ?_)
    obtain ⟨sRW_3, esRW_3, hf⟩ := o_lt_e hf
    have hP : va_P D vwCl (fl [wX K hX (hTab 0) (hProg 0) (hWalk 0) (hWri 0) (hRea 0) (hTP 0) (hGrd 0) (hVAL 0) sX, wGO K hVAL, wRow K (fun _ => hVAL 1) 100 (sVAL 0), wRow K (fun _ => hVAL 2) 100 (sVAL 1), wRow K (fun _ => hVAL 3) 100 (sVAL 2), wRow K (fun _ => hVAL 4) 100 (sVAL 3), wRow K (fun _ => hVAL 5) 100 (sVAL 4), wRow K (fun _ => hVAL 6) 100 (sVAL 5), wRow K (fun _ => hVAL 7) 100 (sVAL 6), wRow K (fun _ => hVAL 8) 100 (sVAL 7), wRow K hRW nRW sRW_3]) H := by rw [esRW_3]; exact fl_P 10 0 rfl (Nat.le_of_ble_eq_true rfl) rfl rfl hP
    have hD : va_D A (fl [wX K hX (hTab 0) (hProg 0) (hWalk 0) (hWri 0) (hRea 0) (hTP 0) (hGrd 0) (hVAL 0) sX, wGO K hVAL, wRow K (fun _ => hVAL 1) 100 (sVAL 0), wRow K (fun _ => hVAL 2) 100 (sVAL 1), wRow K (fun _ => hVAL 3) 100 (sVAL 2), wRow K (fun _ => hVAL 4) 100 (sVAL 3), wRow K (fun _ => hVAL 5) 100 (sVAL 4), wRow K (fun _ => hVAL 6) 100 (sVAL 5), wRow K (fun _ => hVAL 7) 100 (sVAL 6), wRow K (fun _ => hVAL 8) 100 (sVAL 7), wRow K hRW nRW sRW_3]) := by rw [esRW_3]; exact fl_D 10 0 rfl (Nat.le_of_ble_eq_true rfl) rfl rfl hD
    refine lv_goto (tgt := 16) (pc := 9) hx hb d_Law_get_9 (by decide) ?_
    refine lv_iconst (v := 0) (pc := 16) hx hb d_Law_get_16 (by decide) ?_
    cases hf
    exact ret_w hx hb hr hlocks hK hP hS d_Law_get_17
  · replace hf := o_f hx0 hf
    have hP : va_P D vwCl (fl [wX K hX (hTab 0) (hProg 0) (hWalk 0) (hWri 0) (hRea 0) (hTP 0) (hGrd 0) (hVAL 0) sX, wGO K hVAL, wRow K (fun _ => hVAL 1) 100 (sVAL 0), wRow K (fun _ => hVAL 2) 100 (sVAL 1), wRow K (fun _ => hVAL 3) 100 (sVAL 2), wRow K (fun _ => hVAL 4) 100 (sVAL 3), wRow K (fun _ => hVAL 5) 100 (sVAL 4), wRow K (fun _ => hVAL 6) 100 (sVAL 5), wRow K (fun _ => hVAL 7) 100 (sVAL 6), wRow K (fun _ => hVAL 8) 100 (sVAL 7), wRow K hRW nRW sRW]) H := hP
    have hD : va_D A (fl [wX K hX (hTab 0) (hProg 0) (hWalk 0) (hWri 0) (hRea 0) (hTP 0) (hGrd 0) (hVAL 0) sX, wGO K hVAL, wRow K (fun _ => hVAL 1) 100 (sVAL 0), wRow K (fun _ => hVAL 2) 100 (sVAL 1), wRow K (fun _ => hVAL 3) 100 (sVAL 2), wRow K (fun _ => hVAL 4) 100 (sVAL 3), wRow K (fun _ => hVAL 5) 100 (sVAL 4), wRow K (fun _ => hVAL 6) 100 (sVAL 5), wRow K (fun _ => hVAL 7) 100 (sVAL 6), wRow K (fun _ => hVAL 8) 100 (sVAL 7), wRow K hRW nRW sRW]) := hD
    rcases Classical.em (q1.1 = 3) with c4 | c4
    · replace hf := o_t c4 hf
      refine ca_W (hp := 12) (hits_1 (cls := "java/lang/IndexOutOfBoundsException") hown htab ⟨by decide, by decide⟩ (by decide) (hts _ (List.mem_cons_of_mem _ tw_835)) (va_Nw.use rfl (hF.2.1.2.2.2.2 _ ck_3)) (by rw [c4, exN_3] at hXk; exact hXk)) (Vm.classAt_of_findClass hXk) hXc hXo ?_
      refine lv_astore (lv' := [(4, .ref aX), (0, .ref (hX 0)), (1, .int a1), (2, .int a2), (3, .ref (hRW 0))]) (pc := 12) hx hb d_Law_get_12 hl (by decide) rfl (fun ls hl => ?_)
      refine lv_iconst (v := 1) (pc := 14) hx hb d_Law_get_14 (by decide) ?_
      cases hf
      exact ret_w hx hb hr hlocks hK hP hS d_Law_get_15
    · replace hf := o_f c4 hf
      exact absurd hf (fun h => nomatch h)
def Law_fields (fu : Nat) (nRW : Nat) (sVAL : (Nat → Nat → Int64)) (sTab : S_Tab) (a1 : Int32) (sX : S_X) (sProg : S_Prog) (sWalk : S_Walk) (sFld : S_Fld) (sLps : S_Lps) (sRW : (Nat → Int64)) : Option (Int32 × S_X × S_Prog × S_Walk × S_Fld × S_Lps × (Nat → Int64)) := o_bd (X_fields fu sVAL sTab a1 sX sProg sWalk sFld sLps) fun q1 => (if q1.1 = 0 then o_gd (o_in 0 nRW) (o_lt (vp_updL sRW (0 : Int32).toNatClampNeg ((q1.2.1 : Int32).toInt64)) fun sRW_3 => (some ((0, q1.2.2.1, q1.2.2.2.1, q1.2.2.2.2.1, q1.2.2.2.2.2.1, q1.2.2.2.2.2.2, sRW_3)))) else if q1.1 = 3 then some ((1, q1.2.2.1, q1.2.2.2.1, q1.2.2.2.2.1, q1.2.2.2.2.2.1, q1.2.2.2.2.2.2, sRW)) else if q1.1 = 1 then some ((2, q1.2.2.1, q1.2.2.2.1, q1.2.2.2.2.1, q1.2.2.2.2.2.1, q1.2.2.2.2.2.2, sRW)) else none)
abbrev rm_Law_fields : Room := { frames := 7, cells := 1, slots := 6, locals := 185 }
set_option maxHeartbeats 4000000 in
set_option maxRecDepth 100000 in
theorem c_Law_fields (l : Launch) (D : va_G) (K : Nat → ClassId) (htr : ∀ e : Env, l.admits e → e.platform.stackTraces = false) (fu : Nat) (hX : Nat → Nat) (hVAL : Nat → Nat) (hTab : Nat → Nat) (hProg : Nat → Nat) (hWalk : Nat → Nat) (hFld : Nat → Nat) (hLps : Nat → Nat) (hWri : Nat → Nat) (hRea : Nat → Nat) (hTP : Nat → Nat) (hGrd : Nat → Nat) (hRW : Nat → Nat) (nRW : Nat) (sX : S_X) (sVAL : (Nat → Nat → Int64)) (sTab : S_Tab) (sProg : S_Prog) (sWalk : S_Walk) (sFld : S_Fld) (sLps : S_Lps) (sRW : (Nat → Int64)) (a1 : Int32) (r : Int32) (sX' : S_X) (sProg' : S_Prog) (sWalk' : S_Walk) (sFld' : S_Fld) (sLps' : S_Lps) (sRW' : (Nat → Int64)) (hf : Law_fields fu nRW sVAL sTab a1 sX sProg sWalk sFld sLps sRW = some ((r, sX', sProg', sWalk', sFld', sLps', sRW'))) : mw l D K y_Law_fields ws_Law_fields rm_Law_fields [.ref (hX 0), .int a1, .ref (hRW 0)] (fl [wX K hX (hTab 0) (hProg 0) (hWalk 0) (hWri 0) (hRea 0) (hTP 0) (hGrd 0) (hVAL 0) sX, wGO K hVAL, wRow K (fun _ => hVAL 1) 100 (sVAL 0), wRow K (fun _ => hVAL 2) 100 (sVAL 1), wRow K (fun _ => hVAL 3) 100 (sVAL 2), wRow K (fun _ => hVAL 4) 100 (sVAL 3), wRow K (fun _ => hVAL 5) 100 (sVAL 4), wRow K (fun _ => hVAL 6) 100 (sVAL 5), wRow K (fun _ => hVAL 7) 100 (sVAL 6), wRow K (fun _ => hVAL 8) 100 (sVAL 7), wTab K hTab sTab, wProg K hProg (hTab 0) sProg, wWalk K hWalk (hFld 0) (hTab 0) (hProg 0) (hLps 0) sWalk, wFld K hFld sFld, wLps K hLps sLps, wRow K hRW nRW sRW]) (fl [wX K hX (hTab 0) (hProg 0) (hWalk 0) (hWri 0) (hRea 0) (hTP 0) (hGrd 0) (hVAL 0) sX', wGO K hVAL, wRow K (fun _ => hVAL 1) 100 (sVAL 0), wRow K (fun _ => hVAL 2) 100 (sVAL 1), wRow K (fun _ => hVAL 3) 100 (sVAL 2), wRow K (fun _ => hVAL 4) 100 (sVAL 3), wRow K (fun _ => hVAL 5) 100 (sVAL 4), wRow K (fun _ => hVAL 6) 100 (sVAL 5), wRow K (fun _ => hVAL 7) 100 (sVAL 6), wRow K (fun _ => hVAL 8) 100 (sVAL 7), wTab K hTab sTab, wProg K hProg (hTab 0) sProg', wWalk K hWalk (hFld 0) (hTab 0) (hProg 0) (hLps 0) sWalk', wFld K hFld sFld', wLps K hLps sLps', wRow K hRW nRW sRW']) r := by
  refine mw_of (cc := b_Law_fields) (maxL := 4) (own := "ObsMessagesLaw") (by decide) rfl rfl (Nat.le_of_ble_eq_true rfl) ?_
  intro p e s m below meth c A ls hC htab hP hD hS hl
  obtain ⟨hx, hb, hml, hown, hts, hr, hlocks, hK, hF, hA⟩ := hC
  have hP : va_P D vwCl (fl [wX K hX (hTab 0) (hProg 0) (hWalk 0) (hWri 0) (hRea 0) (hTP 0) (hGrd 0) (hVAL 0) sX, wGO K hVAL, wRow K (fun _ => hVAL 1) 100 (sVAL 0), wRow K (fun _ => hVAL 2) 100 (sVAL 1), wRow K (fun _ => hVAL 3) 100 (sVAL 2), wRow K (fun _ => hVAL 4) 100 (sVAL 3), wRow K (fun _ => hVAL 5) 100 (sVAL 4), wRow K (fun _ => hVAL 6) 100 (sVAL 5), wRow K (fun _ => hVAL 7) 100 (sVAL 6), wRow K (fun _ => hVAL 8) 100 (sVAL 7), wTab K hTab sTab, wProg K hProg (hTab 0) sProg, wWalk K hWalk (hFld 0) (hTab 0) (hProg 0) (hLps 0) sWalk, wFld K hFld sFld, wLps K hLps sLps, wRow K hRW nRW sRW]) s.heap := hP
  have hl : lv_has ls 4 [(0, .ref (hX 0)), (1, .int a1), (2, .ref (hRW 0))] := hl
  suffices hW : ∀ (H : Heap) (locs : List Loc), va_P D vwCl (fl [wX K hX (hTab 0) (hProg 0) (hWalk 0) (hWri 0) (hRea 0) (hTP 0) (hGrd 0) (hVAL 0) sX, wGO K hVAL, wRow K (fun _ => hVAL 1) 100 (sVAL 0), wRow K (fun _ => hVAL 2) 100 (sVAL 1), wRow K (fun _ => hVAL 3) 100 (sVAL 2), wRow K (fun _ => hVAL 4) 100 (sVAL 3), wRow K (fun _ => hVAL 5) 100 (sVAL 4), wRow K (fun _ => hVAL 6) 100 (sVAL 5), wRow K (fun _ => hVAL 7) 100 (sVAL 6), wRow K (fun _ => hVAL 8) 100 (sVAL 7), wTab K hTab sTab, wProg K hProg (hTab 0) sProg, wWalk K hWalk (hFld 0) (hTab 0) (hProg 0) (hLps 0) sWalk, wFld K hFld sFld, wLps K hLps sLps, wRow K hRW nRW sRW]) H → va_S A s.heap H locs → W p l e rm_Law_fields s m ([.ref (hX 0), .int a1, .ref (hRW 0)] : List Value).toArray below meth c H locs 0 0 (Qw below ([.ref (hX 0), .int a1, .ref (hRW 0)] : List Value).toArray s D K A (fl [wX K hX (hTab 0) (hProg 0) (hWalk 0) (hWri 0) (hRea 0) (hTP 0) (hGrd 0) (hVAL 0) sX', wGO K hVAL, wRow K (fun _ => hVAL 1) 100 (sVAL 0), wRow K (fun _ => hVAL 2) 100 (sVAL 1), wRow K (fun _ => hVAL 3) 100 (sVAL 2), wRow K (fun _ => hVAL 4) 100 (sVAL 3), wRow K (fun _ => hVAL 5) 100 (sVAL 4), wRow K (fun _ => hVAL 6) 100 (sVAL 5), wRow K (fun _ => hVAL 7) 100 (sVAL 6), wRow K (fun _ => hVAL 8) 100 (sVAL 7), wTab K hTab sTab, wProg K hProg (hTab 0) sProg', wWalk K hWalk (hFld 0) (hTab 0) (hProg 0) (hLps 0) sWalk', wFld K hFld sFld', wLps K hLps sLps', wRow K hRW nRW sRW']) r) (F0 m 0 ls []) from hW s.heap [] hP hS
  clear hP hS
  intro H locs hP hS
  refine lv_aload_n (pc := 0) hx hb d_Law_fields_0 rfl (lv_at hl 2 rfl) ?_
  refine lv_iconst (v := 0) (pc := 1) hx hb d_Law_fields_1 (by decide) ?_
  refine lv_aload_n (pc := 2) hx hb d_Law_fields_2 rfl (lv_at hl 0 rfl) ?_
  refine lv_iload_n (pc := 3) hx hb d_Law_fields_3 rfl (lv_at hl 1 rfl) ?_
  obtain ⟨q1, hq1, hf⟩ := o_bd_e hf
  refine fi_t (pc := 4) (run_T (As := [.int a1]) (rest := [.int 0, .ref (hRW 0)]) ⟨hx, hb, hml, hown, hts⟩ ((c_X_fields l D K htr fu hX hVAL hTab hProg hWalk hFld hLps hWri hRea hTP hGrd sX sVAL sTab sProg sWalk sFld sLps a1 q1.1 q1.2.1 q1.2.2.1 q1.2.2.2.1 q1.2.2.2.2.1 q1.2.2.2.2.2.1 q1.2.2.2.2.2.2 hq1) _) (cwV 1 hts (gV tw_869 tw_870 tw_871 tw_1 tw_872) rfl rfl rfl (by decide +kernel) ⟨by decide, by decide⟩) ⟨mPre_blind, va_recv hK hP (ci := 0) rfl (fl_at 0 0 rfl rfl), (mPre_fl hK hF hA hP hD hS [0, 1, 2, 3, 4, 5, 6, 7, 8, 9, 10, 11, 12, 13, 14] rfl rfl)⟩ rfl rfl hl.1 rfl (lv_room (Nat.le_of_ble_eq_true rfl)) d_Law_fields_4 ⟨Nat.le_refl _, Nat.le_refl _⟩) hA hP hD hS [0, 1, 2, 3, 4, 5, 6, 7, 8, 9, 10, 11, 12, 13, 14] rfl rfl (fun hx0 H locs hP hD hS => ?_) (fun hx0 H locs aX cX hP hD hS hXc hXo hXk => ?_)
  · replace hf := o_t hx0 hf
    have hP : va_P D vwCl (fl [wX K hX (hTab 0) (hProg 0) (hWalk 0) (hWri 0) (hRea 0) (hTP 0) (hGrd 0) (hVAL 0) q1.2.2.1, wGO K hVAL, wRow K (fun _ => hVAL 1) 100 (sVAL 0), wRow K (fun _ => hVAL 2) 100 (sVAL 1), wRow K (fun _ => hVAL 3) 100 (sVAL 2), wRow K (fun _ => hVAL 4) 100 (sVAL 3), wRow K (fun _ => hVAL 5) 100 (sVAL 4), wRow K (fun _ => hVAL 6) 100 (sVAL 5), wRow K (fun _ => hVAL 7) 100 (sVAL 6), wRow K (fun _ => hVAL 8) 100 (sVAL 7), wTab K hTab sTab, wProg K hProg (hTab 0) q1.2.2.2.1, wWalk K hWalk (hFld 0) (hTab 0) (hProg 0) (hLps 0) q1.2.2.2.2.1, wFld K hFld q1.2.2.2.2.2.1, wLps K hLps q1.2.2.2.2.2.2, wRow K hRW nRW sRW]) H := hP
    have hD : va_D A (fl [wX K hX (hTab 0) (hProg 0) (hWalk 0) (hWri 0) (hRea 0) (hTP 0) (hGrd 0) (hVAL 0) q1.2.2.1, wGO K hVAL, wRow K (fun _ => hVAL 1) 100 (sVAL 0), wRow K (fun _ => hVAL 2) 100 (sVAL 1), wRow K (fun _ => hVAL 3) 100 (sVAL 2), wRow K (fun _ => hVAL 4) 100 (sVAL 3), wRow K (fun _ => hVAL 5) 100 (sVAL 4), wRow K (fun _ => hVAL 6) 100 (sVAL 5), wRow K (fun _ => hVAL 7) 100 (sVAL 6), wRow K (fun _ => hVAL 8) 100 (sVAL 7), wTab K hTab sTab, wProg K hProg (hTab 0) q1.2.2.2.1, wWalk K hWalk (hFld 0) (hTab 0) (hProg 0) (hLps 0) q1.2.2.2.2.1, wFld K hFld q1.2.2.2.2.2.1, wLps K hLps q1.2.2.2.2.2.2, wRow K hRW nRW sRW]) := hD
    refine W.eq (g2 := F0 m 7 ls [.int q1.2.1, .int 0, .ref (hRW 0)]) rfl ?_
    refine lv_i2l (pc := 7) hx hb d_Law_fields_7 rfl ?_
    obtain ⟨hi2, hf⟩ := o_gi_e hf
    refine va_last (D := D) (pc := 8) hx hb hK hP hD hS _ 1 (fl_at 15 0 rfl rfl) rfl hi2 d_Law_fields_8 (fun H locs hP hD hS => ?_)
    obtain ⟨sRW_3, esRW_3, hf⟩ := o_lt_e hf
    have hP : va_P D vwCl (fl [wX K hX (hTab 0) (hProg 0) (hWalk 0) (hWri 0) (hRea 0) (hTP 0) (hGrd 0) (hVAL 0) q1.2.2.1, wGO K hVAL, wRow K (fun _ => hVAL 1) 100 (sVAL 0), wRow K (fun _ => hVAL 2) 100 (sVAL 1), wRow K (fun _ => hVAL 3) 100 (sVAL 2), wRow K (fun _ => hVAL 4) 100 (sVAL 3), wRow K (fun _ => hVAL 5) 100 (sVAL 4), wRow K (fun _ => hVAL 6) 100 (sVAL 5), wRow K (fun _ => hVAL 7) 100 (sVAL 6), wRow K (fun _ => hVAL 8) 100 (sVAL 7), wTab K hTab sTab, wProg K hProg (hTab 0) q1.2.2.2.1, wWalk K hWalk (hFld 0) (hTab 0) (hProg 0) (hLps 0) q1.2.2.2.2.1, wFld K hFld q1.2.2.2.2.2.1, wLps K hLps q1.2.2.2.2.2.2, wRow K hRW nRW sRW_3]) H := by rw [esRW_3]; exact fl_P 15 0 rfl (Nat.le_of_ble_eq_true rfl) rfl rfl hP
    have hD : va_D A (fl [wX K hX (hTab 0) (hProg 0) (hWalk 0) (hWri 0) (hRea 0) (hTP 0) (hGrd 0) (hVAL 0) q1.2.2.1, wGO K hVAL, wRow K (fun _ => hVAL 1) 100 (sVAL 0), wRow K (fun _ => hVAL 2) 100 (sVAL 1), wRow K (fun _ => hVAL 3) 100 (sVAL 2), wRow K (fun _ => hVAL 4) 100 (sVAL 3), wRow K (fun _ => hVAL 5) 100 (sVAL 4), wRow K (fun _ => hVAL 6) 100 (sVAL 5), wRow K (fun _ => hVAL 7) 100 (sVAL 6), wRow K (fun _ => hVAL 8) 100 (sVAL 7), wTab K hTab sTab, wProg K hProg (hTab 0) q1.2.2.2.1, wWalk K hWalk (hFld 0) (hTab 0) (hProg 0) (hLps 0) q1.2.2.2.2.1, wFld K hFld q1.2.2.2.2.2.1, wLps K hLps q1.2.2.2.2.2.2, wRow K hRW nRW sRW_3]) := by rw [esRW_3]; exact fl_D 15 0 rfl (Nat.le_of_ble_eq_true rfl) rfl rfl hD
    refine lv_goto (tgt := 18) (pc := 9) hx hb d_Law_fields_9 (by decide) ?_
    refine lv_iconst (v := 0) (pc := 18) hx hb d_Law_fields_18 (by decide) ?_
    cases hf
    exact ret_w hx hb hr hlocks hK hP hS d_Law_fields_19
  · replace hf := o_f hx0 hf
    have hP : va_P D vwCl (fl [wX K hX (hTab 0) (hProg 0) (hWalk 0) (hWri 0) (hRea 0) (hTP 0) (hGrd 0) (hVAL 0) q1.2.2.1, wGO K hVAL, wRow K (fun _ => hVAL 1) 100 (sVAL 0), wRow K (fun _ => hVAL 2) 100 (sVAL 1), wRow K (fun _ => hVAL 3) 100 (sVAL 2), wRow K (fun _ => hVAL 4) 100 (sVAL 3), wRow K (fun _ => hVAL 5) 100 (sVAL 4), wRow K (fun _ => hVAL 6) 100 (sVAL 5), wRow K (fun _ => hVAL 7) 100 (sVAL 6), wRow K (fun _ => hVAL 8) 100 (sVAL 7), wTab K hTab sTab, wProg K hProg (hTab 0) q1.2.2.2.1, wWalk K hWalk (hFld 0) (hTab 0) (hProg 0) (hLps 0) q1.2.2.2.2.1, wFld K hFld q1.2.2.2.2.2.1, wLps K hLps q1.2.2.2.2.2.2, wRow K hRW nRW sRW]) H := hP
    have hD : va_D A (fl [wX K hX (hTab 0) (hProg 0) (hWalk 0) (hWri 0) (hRea 0) (hTP 0) (hGrd 0) (hVAL 0) q1.2.2.1, wGO K hVAL, wRow K (fun _ => hVAL 1) 100 (sVAL 0), wRow K (fun _ => hVAL 2) 100 (sVAL 1), wRow K (fun _ => hVAL 3) 100 (sVAL 2), wRow K (fun _ => hVAL 4) 100 (sVAL 3), wRow K (fun _ => hVAL 5) 100 (sVAL 4), wRow K (fun _ => hVAL 6) 100 (sVAL 5), wRow K (fun _ => hVAL 7) 100 (sVAL 6), wRow K (fun _ => hVAL 8) 100 (sVAL 7), wTab K hTab sTab, wProg K hProg (hTab 0) q1.2.2.2.1, wWalk K hWalk (hFld 0) (hTab 0) (hProg 0) (hLps 0) q1.2.2.2.2.1, wFld K hFld q1.2.2.2.2.2.1, wLps K hLps q1.2.2.2.2.2.2, wRow K hRW nRW sRW]) := hD
    rcases Classical.em (q1.1 = 3) with c4 | c4
    · replace hf := o_t c4 hf
      refine ca_W (hp := 12) (hits_1 (cls := "java/lang/IndexOutOfBoundsException") hown htab ⟨by decide, by decide⟩ (by decide) (hts _ (List.mem_cons_of_mem _ tw_835)) (va_Nw.use rfl (hF.2.1.2.2.2.2 _ ck_3)) (by rw [c4, exN_3] at hXk; exact hXk)) (Vm.classAt_of_findClass hXk) hXc hXo ?_
      refine lv_astore_n (lv' := [(3, .ref aX), (0, .ref (hX 0)), (1, .int a1), (2, .ref (hRW 0))]) (pc := 12) hx hb d_Law_fields_12 rfl hl (by decide) rfl (fun ls hl => ?_)
      refine lv_iconst (v := 1) (pc := 13) hx hb d_Law_fields_13 (by decide) ?_
      cases hf
      exact ret_w hx hb hr hlocks hK hP hS d_Law_fields_14
    · replace hf := o_f c4 hf
      rcases Classical.em (q1.1 = 1) with c5 | c5
      · replace hf := o_t c5 hf
        refine ca_W (hp := 15) (hits_2 (cls := "java/lang/IllegalArgumentException") (cls1 := "java/lang/IndexOutOfBoundsException") hown htab ⟨⟨by decide, by decide⟩, by decide, by decide⟩ ⟨by decide, by decide⟩ (hts _ (List.mem_cons_of_mem _ tw_835)) (hts _ (List.mem_cons_of_mem _ tw_674)) (va_Nw.use rfl (hF.2.1.2.2.2.2 _ ck_1)) (by rw [c5, exN_1] at hXk; exact hXk) (hF.2.1.1 ("java/lang/IllegalArgumentException", "java/lang/IndexOutOfBoundsException") (by decide))) (Vm.classAt_of_findClass hXk) hXc hXo ?_
        refine lv_astore_n (lv' := [(3, .ref aX), (0, .ref (hX 0)), (1, .int a1), (2, .ref (hRW 0))]) (pc := 15) hx hb d_Law_fields_15 rfl hl (by decide) rfl (fun ls hl => ?_)
        refine lv_iconst (v := 2) (pc := 16) hx hb d_Law_fields_16 (by decide) ?_
        cases hf
        exact ret_w hx hb hr hlocks hK hP hS d_Law_fields_17
      · replace hf := o_f c5 hf
        exact absurd hf (fun h => nomatch h)
def Law_write (fu : Nat) (nRW : Nat) (sVAL : (Nat → Nat → Int64)) (sTab : S_Tab) (sWri : S_Wri) (a1 : Int32) (a2 : Int32) (sX : S_X) (sProg : S_Prog) (sWalk : S_Walk) (sFld : S_Fld) (sLps : S_Lps) (sWB : S_Bits) (sRW : (Nat → Int64)) : Option (Int32 × S_X × S_Prog × S_Walk × S_Fld × S_Lps × S_Bits × (Nat → Int64)) := o_bd (X_write fu sVAL sTab sWri a1 a2 sX sProg sWalk sFld sLps sWB) fun q1 => (if q1.1 = 0 then o_gd (o_in 0 nRW) (o_lt (vp_updL sRW (0 : Int32).toNatClampNeg ((q1.2.1 : Int32).toInt64)) fun sRW_3 => (some ((0, q1.2.2.1, q1.2.2.2.1, q1.2.2.2.2.1, q1.2.2.2.2.2.1, q1.2.2.2.2.2.2.1, q1.2.2.2.2.2.2.2, sRW_3)))) else if q1.1 = 1 then some ((1, q1.2.2.1, q1.2.2.2.1, q1.2.2.2.2.1, q1.2.2.2.2.2.1, q1.2.2.2.2.2.2.1, q1.2.2.2.2.2.2.2, sRW)) else none)
abbrev rm_Law_write : Room := { frames := 7, cells := 1, slots := 6, locals := 186 }
set_option maxHeartbeats 4000000 in
set_option maxRecDepth 100000 in
theorem c_Law_write (l : Launch) (D : va_G) (K : Nat → ClassId) (htr : ∀ e : Env, l.admits e → e.platform.stackTraces = false) (fu : Nat) (hX : Nat → Nat) (hVAL : Nat → Nat) (hTab : Nat → Nat) (hProg : Nat → Nat) (hWalk : Nat → Nat) (hFld : Nat → Nat) (hLps : Nat → Nat) (hWri : Nat → Nat) (hWB : Nat → Nat) (hRea : Nat → Nat) (hTP : Nat → Nat) (hGrd : Nat → Nat) (hRW : Nat → Nat) (nRW : Nat) (sX : S_X) (sVAL : (Nat → Nat → Int64)) (sTab : S_Tab) (sProg : S_Prog) (sWalk : S_Walk) (sFld : S_Fld) (sLps : S_Lps) (sWri : S_Wri) (sWB : S_Bits) (sRW : (Nat → Int64)) (a1 : Int32) (a2 : Int32) (r : Int32) (sX' : S_X) (sProg' : S_Prog) (sWalk' : S_Walk) (sFld' : S_Fld) (sLps' : S_Lps) (sWB' : S_Bits) (sRW' : (Nat → Int64)) (hf : Law_write fu nRW sVAL sTab sWri a1 a2 sX sProg sWalk sFld sLps sWB sRW = some ((r, sX', sProg', sWalk', sFld', sLps', sWB', sRW'))) : mw l D K y_Law_write ws_Law_write rm_Law_write [.ref (hX 0), .int a1, .int a2, .ref (hRW 0)] (fl [wX K hX (hTab 0) (hProg 0) (hWalk 0) (hWri 0) (hRea 0) (hTP 0) (hGrd 0) (hVAL 0) sX, wGO K hVAL, wRow K (fun _ => hVAL 1) 100 (sVAL 0), wRow K (fun _ => hVAL 2) 100 (sVAL 1), wRow K (fun _ => hVAL 3) 100 (sVAL 2), wRow K (fun _ => hVAL 4) 100 (sVAL 3), wRow K (fun _ => hVAL 5) 100 (sVAL 4), wRow K (fun _ => hVAL 6) 100 (sVAL 5), wRow K (fun _ => hVAL 7) 100 (sVAL 6), wRow K (fun _ => hVAL 8) 100 (sVAL 7), wTab K hTab sTab, wProg K hProg (hTab 0) sProg, wWalk K hWalk (hFld 0) (hTab 0) (hProg 0) (hLps 0) sWalk, wFld K hFld sFld, wLps K hLps sLps, wWri K hWri (hWB 0) sWri, wBits K hWB 3679 sWB, wRow K hRW nRW sRW]) (fl [wX K hX (hTab 0) (hProg 0) (hWalk 0) (hWri 0) (hRea 0) (hTP 0) (hGrd 0) (hVAL 0) sX', wGO K hVAL, wRow K (fun _ => hVAL 1) 100 (sVAL 0), wRow K (fun _ => hVAL 2) 100 (sVAL 1), wRow K (fun _ => hVAL 3) 100 (sVAL 2), wRow K (fun _ => hVAL 4) 100 (sVAL 3), wRow K (fun _ => hVAL 5) 100 (sVAL 4), wRow K (fun _ => hVAL 6) 100 (sVAL 5), wRow K (fun _ => hVAL 7) 100 (sVAL 6), wRow K (fun _ => hVAL 8) 100 (sVAL 7), wTab K hTab sTab, wProg K hProg (hTab 0) sProg', wWalk K hWalk (hFld 0) (hTab 0) (hProg 0) (hLps 0) sWalk', wFld K hFld sFld', wLps K hLps sLps', wWri K hWri (hWB 0) sWri, wBits K hWB 3679 sWB', wRow K hRW nRW sRW']) r := by
  refine mw_of (cc := b_Law_write) (maxL := 5) (own := "ObsMessagesLaw") (by decide) rfl rfl (Nat.le_of_ble_eq_true rfl) ?_
  intro p e s m below meth c A ls hC htab hP hD hS hl
  obtain ⟨hx, hb, hml, hown, hts, hr, hlocks, hK, hF, hA⟩ := hC
  have hP : va_P D vwCl (fl [wX K hX (hTab 0) (hProg 0) (hWalk 0) (hWri 0) (hRea 0) (hTP 0) (hGrd 0) (hVAL 0) sX, wGO K hVAL, wRow K (fun _ => hVAL 1) 100 (sVAL 0), wRow K (fun _ => hVAL 2) 100 (sVAL 1), wRow K (fun _ => hVAL 3) 100 (sVAL 2), wRow K (fun _ => hVAL 4) 100 (sVAL 3), wRow K (fun _ => hVAL 5) 100 (sVAL 4), wRow K (fun _ => hVAL 6) 100 (sVAL 5), wRow K (fun _ => hVAL 7) 100 (sVAL 6), wRow K (fun _ => hVAL 8) 100 (sVAL 7), wTab K hTab sTab, wProg K hProg (hTab 0) sProg, wWalk K hWalk (hFld 0) (hTab 0) (hProg 0) (hLps 0) sWalk, wFld K hFld sFld, wLps K hLps sLps, wWri K hWri (hWB 0) sWri, wBits K hWB 3679 sWB, wRow K hRW nRW sRW]) s.heap := hP
  have hl : lv_has ls 5 [(0, .ref (hX 0)), (1, .int a1), (2, .int a2), (3, .ref (hRW 0))] := hl
  suffices hW : ∀ (H : Heap) (locs : List Loc), va_P D vwCl (fl [wX K hX (hTab 0) (hProg 0) (hWalk 0) (hWri 0) (hRea 0) (hTP 0) (hGrd 0) (hVAL 0) sX, wGO K hVAL, wRow K (fun _ => hVAL 1) 100 (sVAL 0), wRow K (fun _ => hVAL 2) 100 (sVAL 1), wRow K (fun _ => hVAL 3) 100 (sVAL 2), wRow K (fun _ => hVAL 4) 100 (sVAL 3), wRow K (fun _ => hVAL 5) 100 (sVAL 4), wRow K (fun _ => hVAL 6) 100 (sVAL 5), wRow K (fun _ => hVAL 7) 100 (sVAL 6), wRow K (fun _ => hVAL 8) 100 (sVAL 7), wTab K hTab sTab, wProg K hProg (hTab 0) sProg, wWalk K hWalk (hFld 0) (hTab 0) (hProg 0) (hLps 0) sWalk, wFld K hFld sFld, wLps K hLps sLps, wWri K hWri (hWB 0) sWri, wBits K hWB 3679 sWB, wRow K hRW nRW sRW]) H → va_S A s.heap H locs → W p l e rm_Law_write s m ([.ref (hX 0), .int a1, .int a2, .ref (hRW 0)] : List Value).toArray below meth c H locs 0 0 (Qw below ([.ref (hX 0), .int a1, .int a2, .ref (hRW 0)] : List Value).toArray s D K A (fl [wX K hX (hTab 0) (hProg 0) (hWalk 0) (hWri 0) (hRea 0) (hTP 0) (hGrd 0) (hVAL 0) sX', wGO K hVAL, wRow K (fun _ => hVAL 1) 100 (sVAL 0), wRow K (fun _ => hVAL 2) 100 (sVAL 1), wRow K (fun _ => hVAL 3) 100 (sVAL 2), wRow K (fun _ => hVAL 4) 100 (sVAL 3), wRow K (fun _ => hVAL 5) 100 (sVAL 4), wRow K (fun _ => hVAL 6) 100 (sVAL 5), wRow K (fun _ => hVAL 7) 100 (sVAL 6), wRow K (fun _ => hVAL 8) 100 (sVAL 7), wTab K hTab sTab, wProg K hProg (hTab 0) sProg', wWalk K hWalk (hFld 0) (hTab 0) (hProg 0) (hLps 0) sWalk', wFld K hFld sFld', wLps K hLps sLps', wWri K hWri (hWB 0) sWri, wBits K hWB 3679 sWB', wRow K hRW nRW sRW']) r) (F0 m 0 ls []) from hW s.heap [] hP hS
  clear hP hS
  intro H locs hP hS
  refine lv_aload_n (pc := 0) hx hb d_Law_write_0 rfl (lv_at hl 3 rfl) ?_
  refine lv_iconst (v := 0) (pc := 1) hx hb d_Law_write_1 (by decide) ?_
  refine lv_aload_n (pc := 2) hx hb d_Law_write_2 rfl (lv_at hl 0 rfl) ?_
  refine lv_iload_n (pc := 3) hx hb d_Law_write_3 rfl (lv_at hl 1 rfl) ?_
  refine lv_iload_n (pc := 4) hx hb d_Law_write_4 rfl (lv_at hl 2 rfl) ?_
  obtain ⟨q1, hq1, hf⟩ := o_bd_e hf
  refine fi_t (pc := 5) (run_T (As := [.int a1, .int a2]) (rest := [.int 0, .ref (hRW 0)]) ⟨hx, hb, hml, hown, hts⟩ ((c_X_write l D K htr fu hX hVAL hTab hProg hWalk hFld hLps hWri hWB hRea hTP hGrd sX sVAL sTab sProg sWalk sFld sLps sWri sWB a1 a2 q1.1 q1.2.1 q1.2.2.1 q1.2.2.2.1 q1.2.2.2.2.1 q1.2.2.2.2.2.1 q1.2.2.2.2.2.2.1 q1.2.2.2.2.2.2.2 hq1) _) (cwV 2 hts (gV tw_881 tw_882 tw_883 tw_1 tw_884) rfl rfl rfl (by decide +kernel) ⟨by decide, by decide⟩) ⟨mPre_blind, va_recv hK hP (ci := 0) rfl (fl_at 0 0 rfl rfl), (mPre_fl hK hF hA hP hD hS [0, 1, 2, 3, 4, 5, 6, 7, 8, 9, 10, 11, 12, 13, 14, 15, 16] rfl rfl)⟩ rfl rfl hl.1 rfl (lv_room (Nat.le_of_ble_eq_true rfl)) d_Law_write_5 ⟨Nat.le_refl _, Nat.le_refl _⟩) hA hP hD hS [0, 1, 2, 3, 4, 5, 6, 7, 8, 9, 10, 11, 12, 13, 14, 15, 16] rfl rfl (fun hx0 H locs hP hD hS => ?_) (fun hx0 H locs aX cX hP hD hS hXc hXo hXk => ?_)
  · replace hf := o_t hx0 hf
    have hP : va_P D vwCl (fl [wX K hX (hTab 0) (hProg 0) (hWalk 0) (hWri 0) (hRea 0) (hTP 0) (hGrd 0) (hVAL 0) q1.2.2.1, wGO K hVAL, wRow K (fun _ => hVAL 1) 100 (sVAL 0), wRow K (fun _ => hVAL 2) 100 (sVAL 1), wRow K (fun _ => hVAL 3) 100 (sVAL 2), wRow K (fun _ => hVAL 4) 100 (sVAL 3), wRow K (fun _ => hVAL 5) 100 (sVAL 4), wRow K (fun _ => hVAL 6) 100 (sVAL 5), wRow K (fun _ => hVAL 7) 100 (sVAL 6), wRow K (fun _ => hVAL 8) 100 (sVAL 7), wTab K hTab sTab, wProg K hProg (hTab 0) q1.2.2.2.1, wWalk K hWalk (hFld 0) (hTab 0) (hProg 0) (hLps 0) q1.2.2.2.2.1, wFld K hFld q1.2.2.2.2.2.1, wLps K hLps q1.2.2.2.2.2.2.1, wWri K hWri (hWB 0) sWri, wBits K hWB 3679 q1.2.2.2.2.2.2.2, wRow K hRW nRW sRW]) H := hP
    have hD : va_D A (fl [wX K hX (hTab 0) (hProg 0) (hWalk 0) (hWri 0) (hRea 0) (hTP 0) (hGrd 0) (hVAL 0) q1.2.2.1, wGO K hVAL, wRow K (fun _ => hVAL 1) 100 (sVAL 0), wRow K (fun _ => hVAL 2) 100 (sVAL 1), wRow K (fun _ => hVAL 3) 100 (sVAL 2), wRow K (fun _ => hVAL 4) 100 (sVAL 3), wRow K (fun _ => hVAL 5) 100 (sVAL 4), wRow K (fun _ => hVAL 6) 100 (sVAL 5), wRow K (fun _ => hVAL 7) 100 (sVAL 6), wRow K (fun _ => hVAL 8) 100 (sVAL 7), wTab K hTab sTab, wProg K hProg (hTab 0) q1.2.2.2.1, wWalk K hWalk (hFld 0) (hTab 0) (hProg 0) (hLps 0) q1.2.2.2.2.1, wFld K hFld q1.2.2.2.2.2.1, wLps K hLps q1.2.2.2.2.2.2.1, wWri K hWri (hWB 0) sWri, wBits K hWB 3679 q1.2.2.2.2.2.2.2, wRow K hRW nRW sRW]) := hD
    refine W.eq (g2 := F0 m 8 ls [.int q1.2.1, .int 0, .ref (hRW 0)]) rfl ?_
    refine lv_i2l (pc := 8) hx hb d_Law_write_8 rfl ?_
    obtain ⟨hi2, hf⟩ := o_gi_e hf
    refine va_last (D := D) (pc := 9) hx hb hK hP hD hS _ 1 (fl_at 17 0 rfl rfl) rfl hi2 d_Law_write_9 (fun H locs hP hD hS => ?_)
    obtain ⟨sRW_3, esRW_3, hf⟩ := o_lt_e hf
    have hP : va_P D vwCl (fl [wX K hX (hTab 0) (hProg 0) (hWalk 0) (hWri 0) (hRea 0) (hTP 0) (hGrd 0) (hVAL 0) q1.2.2.1, wGO K hVAL, wRow K (fun _ => hVAL 1) 100 (sVAL 0), wRow K (fun _ => hVAL 2) 100 (sVAL 1), wRow K (fun _ => hVAL 3) 100 (sVAL 2), wRow K (fun _ => hVAL 4) 100 (sVAL 3), wRow K (fun _ => hVAL 5) 100 (sVAL 4), wRow K (fun _ => hVAL 6) 100 (sVAL 5), wRow K (fun _ => hVAL 7) 100 (sVAL 6), wRow K (fun _ => hVAL 8) 100 (sVAL 7), wTab K hTab sTab, wProg K hProg (hTab 0) q1.2.2.2.1, wWalk K hWalk (hFld 0) (hTab 0) (hProg 0) (hLps 0) q1.2.2.2.2.1, wFld K hFld q1.2.2.2.2.2.1, wLps K hLps q1.2.2.2.2.2.2.1, wWri K hWri (hWB 0) sWri, wBits K hWB 3679 q1.2.2.2.2.2.2.2, wRow K hRW nRW sRW_3]) H := by rw [esRW_3]; exact fl_P 17 0 rfl (Nat.le_of_ble_eq_true rfl) rfl rfl hP
    have hD : va_D A (fl [wX K hX (hTab 0) (hProg 0) (hWalk 0) (hWri 0) (hRea 0) (hTP 0) (hGrd 0) (hVAL 0) q1.2.2.1, wGO K hVAL, wRow K (fun _ => hVAL 1) 100 (sVAL 0), wRow K (fun _ => hVAL 2) 100 (sVAL 1), wRow K (fun _ => hVAL 3) 100 (sVAL 2), wRow K (fun _ => hVAL 4) 100 (sVAL 3), wRow K (fun _ => hVAL 5) 100 (sVAL 4), wRow K (fun _ => hVAL 6) 100 (sVAL 5), wRow K (fun _ => hVAL 7) 100 (sVAL 6), wRow K (fun _ => hVAL 8) 100 (sVAL 7), wTab K hTab sTab, wProg K hProg (hTab 0) q1.2.2.2.1, wWalk K hWalk (hFld 0) (hTab 0) (hProg 0) (hLps 0) q1.2.2.2.2.1, wFld K hFld q1.2.2.2.2.2.1, wLps K hLps q1.2.2.2.2.2.2.1, wWri K hWri (hWB 0) sWri, wBits K hWB 3679 q1.2.2.2.2.2.2.2, wRow K hRW nRW sRW_3]) := by rw [esRW_3]; exact fl_D 17 0 rfl (Nat.le_of_ble_eq_true rfl) rfl rfl hD
    refine lv_goto (tgt := 17) (pc := 10) hx hb d_Law_write_10 (by decide) ?_
    refine lv_iconst (v := 0) (pc := 17) hx hb d_Law_write_17 (by decide) ?_
    cases hf
    exact ret_w hx hb hr hlocks hK hP hS d_Law_write_18
  · replace hf := o_f hx0 hf
    have hP : va_P D vwCl (fl [wX K hX (hTab 0) (hProg 0) (hWalk 0) (hWri 0) (hRea 0) (hTP 0) (hGrd 0) (hVAL 0) q1.2.2.1, wGO K hVAL, wRow K (fun _ => hVAL 1) 100 (sVAL 0), wRow K (fun _ => hVAL 2) 100 (sVAL 1), wRow K (fun _ => hVAL 3) 100 (sVAL 2), wRow K (fun _ => hVAL 4) 100 (sVAL 3), wRow K (fun _ => hVAL 5) 100 (sVAL 4), wRow K (fun _ => hVAL 6) 100 (sVAL 5), wRow K (fun _ => hVAL 7) 100 (sVAL 6), wRow K (fun _ => hVAL 8) 100 (sVAL 7), wTab K hTab sTab, wProg K hProg (hTab 0) q1.2.2.2.1, wWalk K hWalk (hFld 0) (hTab 0) (hProg 0) (hLps 0) q1.2.2.2.2.1, wFld K hFld q1.2.2.2.2.2.1, wLps K hLps q1.2.2.2.2.2.2.1, wWri K hWri (hWB 0) sWri, wBits K hWB 3679 q1.2.2.2.2.2.2.2, wRow K hRW nRW sRW]) H := hP
    have hD : va_D A (fl [wX K hX (hTab 0) (hProg 0) (hWalk 0) (hWri 0) (hRea 0) (hTP 0) (hGrd 0) (hVAL 0) q1.2.2.1, wGO K hVAL, wRow K (fun _ => hVAL 1) 100 (sVAL 0), wRow K (fun _ => hVAL 2) 100 (sVAL 1), wRow K (fun _ => hVAL 3) 100 (sVAL 2), wRow K (fun _ => hVAL 4) 100 (sVAL 3), wRow K (fun _ => hVAL 5) 100 (sVAL 4), wRow K (fun _ => hVAL 6) 100 (sVAL 5), wRow K (fun _ => hVAL 7) 100 (sVAL 6), wRow K (fun _ => hVAL 8) 100 (sVAL 7), wTab K hTab sTab, wProg K hProg (hTab 0) q1.2.2.2.1, wWalk K hWalk (hFld 0) (hTab 0) (hProg 0) (hLps 0) q1.2.2.2.2.1, wFld K hFld q1.2.2.2.2.2.1, wLps K hLps q1.2.2.2.2.2.2.1, wWri K hWri (hWB 0) sWri, wBits K hWB 3679 q1.2.2.2.2.2.2.2, wRow K hRW nRW sRW]) := hD
    rcases Classical.em (q1.1 = 1) with c4 | c4
    · replace hf := o_t c4 hf
      refine ca_W (hp := 13) (hits_1 (cls := "java/lang/IllegalArgumentException") hown htab ⟨by decide, by decide⟩ (by decide) (hts _ (List.mem_cons_of_mem _ tw_674)) (va_Nw.use rfl (hF.2.1.2.2.2.2 _ ck_1)) (by rw [c4, exN_1] at hXk; exact hXk)) (Vm.classAt_of_findClass hXk) hXc hXo ?_
      refine lv_astore (lv' := [(4, .ref aX), (0, .ref (hX 0)), (1, .int a1), (2, .int a2), (3, .ref (hRW 0))]) (pc := 13) hx hb d_Law_write_13 hl (by decide) rfl (fun ls hl => ?_)
      refine lv_iconst (v := 1) (pc := 15) hx hb d_Law_write_15 (by decide) ?_
      cases hf
      exact ret_w hx hb hr hlocks hK hP hS d_Law_write_16
    · replace hf := o_f c4 hf
      exact absurd hf (fun h => nomatch h)
def Law_read (fu : Nat) (nRW : Nat) (sTab : S_Tab) (sX : S_X) (sVAL : (Nat → Nat → Int64)) (sProg : S_Prog) (sWalk : S_Walk) (sFld : S_Fld) (sLps : S_Lps) (sRea : S_Rea) (sRR : (Nat → Nat → Int64)) (sTP : S_Bits) (sRW : (Nat → Int64)) : Option (Int32 × S_X × (Nat → Nat → Int64) × S_Prog × S_Walk × S_Fld × S_Lps × S_Rea × (Nat → Nat → Int64) × S_Bits × (Nat → Int64)) := o_bd (X_read fu sTab sX sVAL sProg sWalk sFld sLps sRea sRR sTP) fun q1 => (if q1.1 = 0 then o_gd (o_in 0 nRW) (o_lt (vp_updL sRW (0 : Int32).toNatClampNeg ((q1.2.1 : Int32).toInt64)) fun sRW_3 => (some ((0, q1.2.2.1, q1.2.2.2.1, q1.2.2.2.2.1, q1.2.2.2.2.2.1, q1.2.2.2.2.2.2.1, q1.2.2.2.2.2.2.2.1, q1.2.2.2.2.2.2.2.2.1, q1.2.2.2.2.2.2.2.2.2.1, q1.2.2.2.2.2.2.2.2.2.2, sRW_3)))) else if q1.1 = 1 then some ((1, q1.2.2.1, q1.2.2.2.1, q1.2.2.2.2.1, q1.2.2.2.2.2.1, q1.2.2.2.2.2.2.1, q1.2.2.2.2.2.2.2.1, q1.2.2.2.2.2.2.2.2.1, q1.2.2.2.2.2.2.2.2.2.1, q1.2.2.2.2.2.2.2.2.2.2, sRW)) else none)
abbrev rm_Law_read : Room := { frames := 7, cells := 1, slots := 6, locals := 185 }
set_option maxHeartbeats 4000000 in
set_option maxRecDepth 100000 in
theorem c_Law_read (l : Launch) (D : va_G) (K : Nat → ClassId) (htr : ∀ e : Env, l.admits e → e.platform.stackTraces = false) (fu : Nat) (hX : Nat → Nat) (hVAL : Nat → Nat) (hTab : Nat → Nat) (hProg : Nat → Nat) (hWalk : Nat → Nat) (hFld : Nat → Nat) (hLps : Nat → Nat) (hWri : Nat → Nat) (hRea : Nat → Nat) (hRR : Nat → Nat) (hTP : Nat → Nat) (hGrd : Nat → Nat) (hRW : Nat → Nat) (nRW : Nat) (sX : S_X) (sVAL : (Nat → Nat → Int64)) (sTab : S_Tab) (sProg : S_Prog) (sWalk : S_Walk) (sFld : S_Fld) (sLps : S_Lps) (sRea : S_Rea) (sRR : (Nat → Nat → Int64)) (sTP : S_Bits) (sRW : (Nat → Int64)) (r : Int32) (sX' : S_X) (sVAL' : (Nat → Nat → Int64)) (sProg' : S_Prog) (sWalk' : S_Walk) (sFld' : S_Fld) (sLps' : S_Lps) (sRea' : S_Rea) (sRR' : (Nat → Nat → Int64)) (sTP' : S_Bits) (sRW' : (Nat → Int64)) (hf : Law_read fu nRW sTab sX sVAL sProg sWalk sFld sLps sRea sRR sTP sRW = some ((r, sX', sVAL', sProg', sWalk', sFld', sLps', sRea', sRR', sTP', sRW'))) : mw l D K y_Law_read ws_Law_read rm_Law_read [.ref (hX 0), .ref (hRW 0)] (fl [wX K hX (hTab 0) (hProg 0) (hWalk 0) (hWri 0) (hRea 0) (hTP 0) (hGrd 0) (hVAL 0) sX, wGO K hVAL, wRow K (fun _ => hVAL 1) 100 (sVAL 0), wRow K (fun _ => hVAL 2) 100 (sVAL 1), wRow K (fun _ => hVAL 3) 100 (sVAL 2), wRow K (fun _ => hVAL 4) 100 (sVAL 3), wRow K (fun _ => hVAL 5) 100 (sVAL 4), wRow K (fun _ => hVAL 6) 100 (sVAL 5), wRow K (fun _ => hVAL 7) 100 (sVAL 6), wRow K (fun _ => hVAL 8) 100 (sVAL 7), wTab K hTab sTab, wProg K hProg (hTab 0) sProg, wWalk K hWalk (hFld 0) (hTab 0) (hProg 0) (hLps 0) sWalk, wFld K hFld sFld, wLps K hLps sLps, wRea K hRea (hRR 0) (hTP 0) sRea, wGO K hRR, wRow K (fun _ => hRR 1) 100 (sRR 0), wRow K (fun _ => hRR 2) 100 (sRR 1), wRow K (fun _ => hRR 3) 100 (sRR 2), wRow K (fun _ => hRR 4) 100 (sRR 3), wRow K (fun _ => hRR 5) 100 (sRR 4), wRow K (fun _ => hRR 6) 100 (sRR 5), wRow K (fun _ => hRR 7) 100 (sRR 6), wRow K (fun _ => hRR 8) 100 (sRR 7), wBits K hTP 1000 sTP, wRow K hRW nRW sRW]) (fl [wX K hX (hTab 0) (hProg 0) (hWalk 0) (hWri 0) (hRea 0) (hTP 0) (hGrd 0) (hVAL 0) sX', wGO K hVAL, wRow K (fun _ => hVAL 1) 100 (sVAL' 0), wRow K (fun _ => hVAL 2) 100 (sVAL' 1), wRow K (fun _ => hVAL 3) 100 (sVAL' 2), wRow K (fun _ => hVAL 4) 100 (sVAL' 3), wRow K (fun _ => hVAL 5) 100 (sVAL' 4), wRow K (fun _ => hVAL 6) 100 (sVAL' 5), wRow K (fun _ => hVAL 7) 100 (sVAL' 6), wRow K (fun _ => hVAL 8) 100 (sVAL' 7), wTab K hTab sTab, wProg K hProg (hTab 0) sProg', wWalk K hWalk (hFld 0) (hTab 0) (hProg 0) (hLps 0) sWalk', wFld K hFld sFld', wLps K hLps sLps', wRea K hRea (hRR 0) (hTP 0) sRea', wGO K hRR, wRow K (fun _ => hRR 1) 100 (sRR' 0), wRow K (fun _ => hRR 2) 100 (sRR' 1), wRow K (fun _ => hRR 3) 100 (sRR' 2), wRow K (fun _ => hRR 4) 100 (sRR' 3), wRow K (fun _ => hRR 5) 100 (sRR' 4), wRow K (fun _ => hRR 6) 100 (sRR' 5), wRow K (fun _ => hRR 7) 100 (sRR' 6), wRow K (fun _ => hRR 8) 100 (sRR' 7), wBits K hTP 1000 sTP', wRow K hRW nRW sRW']) r := by
  refine mw_of (cc := b_Law_read) (maxL := 3) (own := "ObsMessagesLaw") (by decide) rfl rfl (Nat.le_of_ble_eq_true rfl) ?_
  intro p e s m below meth c A ls hC htab hP hD hS hl
  obtain ⟨hx, hb, hml, hown, hts, hr, hlocks, hK, hF, hA⟩ := hC
  have hP : va_P D vwCl (fl [wX K hX (hTab 0) (hProg 0) (hWalk 0) (hWri 0) (hRea 0) (hTP 0) (hGrd 0) (hVAL 0) sX, wGO K hVAL, wRow K (fun _ => hVAL 1) 100 (sVAL 0), wRow K (fun _ => hVAL 2) 100 (sVAL 1), wRow K (fun _ => hVAL 3) 100 (sVAL 2), wRow K (fun _ => hVAL 4) 100 (sVAL 3), wRow K (fun _ => hVAL 5) 100 (sVAL 4), wRow K (fun _ => hVAL 6) 100 (sVAL 5), wRow K (fun _ => hVAL 7) 100 (sVAL 6), wRow K (fun _ => hVAL 8) 100 (sVAL 7), wTab K hTab sTab, wProg K hProg (hTab 0) sProg, wWalk K hWalk (hFld 0) (hTab 0) (hProg 0) (hLps 0) sWalk, wFld K hFld sFld, wLps K hLps sLps, wRea K hRea (hRR 0) (hTP 0) sRea, wGO K hRR, wRow K (fun _ => hRR 1) 100 (sRR 0), wRow K (fun _ => hRR 2) 100 (sRR 1), wRow K (fun _ => hRR 3) 100 (sRR 2), wRow K (fun _ => hRR 4) 100 (sRR 3), wRow K (fun _ => hRR 5) 100 (sRR 4), wRow K (fun _ => hRR 6) 100 (sRR 5), wRow K (fun _ => hRR 7) 100 (sRR 6), wRow K (fun _ => hRR 8) 100 (sRR 7), wBits K hTP 1000 sTP, wRow K hRW nRW sRW]) s.heap := hP
  have hl : lv_has ls 3 [(0, .ref (hX 0)), (1, .ref (hRW 0))] := hl
  suffices hW : ∀ (H : Heap) (locs : List Loc), va_P D vwCl (fl [wX K hX (hTab 0) (hProg 0) (hWalk 0) (hWri 0) (hRea 0) (hTP 0) (hGrd 0) (hVAL 0) sX, wGO K hVAL, wRow K (fun _ => hVAL 1) 100 (sVAL 0), wRow K (fun _ => hVAL 2) 100 (sVAL 1), wRow K (fun _ => hVAL 3) 100 (sVAL 2), wRow K (fun _ => hVAL 4) 100 (sVAL 3), wRow K (fun _ => hVAL 5) 100 (sVAL 4), wRow K (fun _ => hVAL 6) 100 (sVAL 5), wRow K (fun _ => hVAL 7) 100 (sVAL 6), wRow K (fun _ => hVAL 8) 100 (sVAL 7), wTab K hTab sTab, wProg K hProg (hTab 0) sProg, wWalk K hWalk (hFld 0) (hTab 0) (hProg 0) (hLps 0) sWalk, wFld K hFld sFld, wLps K hLps sLps, wRea K hRea (hRR 0) (hTP 0) sRea, wGO K hRR, wRow K (fun _ => hRR 1) 100 (sRR 0), wRow K (fun _ => hRR 2) 100 (sRR 1), wRow K (fun _ => hRR 3) 100 (sRR 2), wRow K (fun _ => hRR 4) 100 (sRR 3), wRow K (fun _ => hRR 5) 100 (sRR 4), wRow K (fun _ => hRR 6) 100 (sRR 5), wRow K (fun _ => hRR 7) 100 (sRR 6), wRow K (fun _ => hRR 8) 100 (sRR 7), wBits K hTP 1000 sTP, wRow K hRW nRW sRW]) H → va_S A s.heap H locs → W p l e rm_Law_read s m ([.ref (hX 0), .ref (hRW 0)] : List Value).toArray below meth c H locs 0 0 (Qw below ([.ref (hX 0), .ref (hRW 0)] : List Value).toArray s D K A (fl [wX K hX (hTab 0) (hProg 0) (hWalk 0) (hWri 0) (hRea 0) (hTP 0) (hGrd 0) (hVAL 0) sX', wGO K hVAL, wRow K (fun _ => hVAL 1) 100 (sVAL' 0), wRow K (fun _ => hVAL 2) 100 (sVAL' 1), wRow K (fun _ => hVAL 3) 100 (sVAL' 2), wRow K (fun _ => hVAL 4) 100 (sVAL' 3), wRow K (fun _ => hVAL 5) 100 (sVAL' 4), wRow K (fun _ => hVAL 6) 100 (sVAL' 5), wRow K (fun _ => hVAL 7) 100 (sVAL' 6), wRow K (fun _ => hVAL 8) 100 (sVAL' 7), wTab K hTab sTab, wProg K hProg (hTab 0) sProg', wWalk K hWalk (hFld 0) (hTab 0) (hProg 0) (hLps 0) sWalk', wFld K hFld sFld', wLps K hLps sLps', wRea K hRea (hRR 0) (hTP 0) sRea', wGO K hRR, wRow K (fun _ => hRR 1) 100 (sRR' 0), wRow K (fun _ => hRR 2) 100 (sRR' 1), wRow K (fun _ => hRR 3) 100 (sRR' 2), wRow K (fun _ => hRR 4) 100 (sRR' 3), wRow K (fun _ => hRR 5) 100 (sRR' 4), wRow K (fun _ => hRR 6) 100 (sRR' 5), wRow K (fun _ => hRR 7) 100 (sRR' 6), wRow K (fun _ => hRR 8) 100 (sRR' 7), wBits K hTP 1000 sTP', wRow K hRW nRW sRW']) r) (F0 m 0 ls []) from hW s.heap [] hP hS
  clear hP hS
  intro H locs hP hS
  refine lv_aload_n (pc := 0) hx hb d_Law_read_0 rfl (lv_at hl 1 rfl) ?_
  refine lv_iconst (v := 0) (pc := 1) hx hb d_Law_read_1 (by decide) ?_
  refine lv_aload_n (pc := 2) hx hb d_Law_read_2 rfl (lv_at hl 0 rfl) ?_
  obtain ⟨q1, hq1, hf⟩ := o_bd_e hf
  refine fi_t (pc := 3) (run_T (As := []) (rest := [.int 0, .ref (hRW 0)]) ⟨hx, hb, hml, hown, hts⟩ ((c_X_read l D K htr fu hX hVAL hTab hProg hWalk hFld hLps hWri hRea hRR hTP hGrd sX sVAL sTab sProg sWalk sFld sLps sRea sRR sTP q1.1 q1.2.1 q1.2.2.1 q1.2.2.2.1 q1.2.2.2.2.1 q1.2.2.2.2.2.1 q1.2.2.2.2.2.2.1 q1.2.2.2.2.2.2.2.1 q1.2.2.2.2.2.2.2.2.1 q1.2.2.2.2.2.2.2.2.2.1 q1.2.2.2.2.2.2.2.2.2.2 hq1) _) (cwV 0 hts (gV tw_963 tw_964 tw_965 tw_1 tw_966) rfl rfl rfl (by decide +kernel) ⟨by decide, by decide⟩) ⟨mPre_blind, va_recv hK hP (ci := 0) rfl (fl_at 0 0 rfl rfl), (mPre_fl hK hF hA hP hD hS [0, 1, 2, 3, 4, 5, 6, 7, 8, 9, 10, 11, 12, 13, 14, 15, 16, 17, 18, 19, 20, 21, 22, 23, 24, 25] rfl rfl)⟩ rfl rfl hl.1 rfl (lv_room (Nat.le_of_ble_eq_true rfl)) d_Law_read_3 ⟨Nat.le_refl _, Nat.le_refl _⟩) hA hP hD hS [0, 1, 2, 3, 4, 5, 6, 7, 8, 9, 10, 11, 12, 13, 14, 15, 16, 17, 18, 19, 20, 21, 22, 23, 24, 25] rfl rfl (fun hx0 H locs hP hD hS => ?_) (fun hx0 H locs aX cX hP hD hS hXc hXo hXk => ?_)
  · replace hf := o_t hx0 hf
    have hP : va_P D vwCl (fl [wX K hX (hTab 0) (hProg 0) (hWalk 0) (hWri 0) (hRea 0) (hTP 0) (hGrd 0) (hVAL 0) q1.2.2.1, wGO K hVAL, wRow K (fun _ => hVAL 1) 100 (q1.2.2.2.1 0), wRow K (fun _ => hVAL 2) 100 (q1.2.2.2.1 1), wRow K (fun _ => hVAL 3) 100 (q1.2.2.2.1 2), wRow K (fun _ => hVAL 4) 100 (q1.2.2.2.1 3), wRow K (fun _ => hVAL 5) 100 (q1.2.2.2.1 4), wRow K (fun _ => hVAL 6) 100 (q1.2.2.2.1 5), wRow K (fun _ => hVAL 7) 100 (q1.2.2.2.1 6), wRow K (fun _ => hVAL 8) 100 (q1.2.2.2.1 7), wTab K hTab sTab, wProg K hProg (hTab 0) q1.2.2.2.2.1, wWalk K hWalk (hFld 0) (hTab 0) (hProg 0) (hLps 0) q1.2.2.2.2.2.1, wFld K hFld q1.2.2.2.2.2.2.1, wLps K hLps q1.2.2.2.2.2.2.2.1, wRea K hRea (hRR 0) (hTP 0) q1.2.2.2.2.2.2.2.2.1, wGO K hRR, wRow K (fun _ => hRR 1) 100 (q1.2.2.2.2.2.2.2.2.2.1 0), wRow K (fun _ => hRR 2) 100 (q1.2.2.2.2.2.2.2.2.2.1 1), wRow K (fun _ => hRR 3) 100 (q1.2.2.2.2.2.2.2.2.2.1 2), wRow K (fun _ => hRR 4) 100 (q1.2.2.2.2.2.2.2.2.2.1 3), wRow K (fun _ => hRR 5) 100 (q1.2.2.2.2.2.2.2.2.2.1 4), wRow K (fun _ => hRR 6) 100 (q1.2.2.2.2.2.2.2.2.2.1 5), wRow K (fun _ => hRR 7) 100 (q1.2.2.2.2.2.2.2.2.2.1 6), wRow K (fun _ => hRR 8) 100 (q1.2.2.2.2.2.2.2.2.2.1 7), wBits K hTP 1000 q1.2.2.2.2.2.2.2.2.2.2, wRow K hRW nRW sRW]) H := hP
    have hD : va_D A (fl [wX K hX (hTab 0) (hProg 0) (hWalk 0) (hWri 0) (hRea 0) (hTP 0) (hGrd 0) (hVAL 0) q1.2.2.1, wGO K hVAL, wRow K (fun _ => hVAL 1) 100 (q1.2.2.2.1 0), wRow K (fun _ => hVAL 2) 100 (q1.2.2.2.1 1), wRow K (fun _ => hVAL 3) 100 (q1.2.2.2.1 2), wRow K (fun _ => hVAL 4) 100 (q1.2.2.2.1 3), wRow K (fun _ => hVAL 5) 100 (q1.2.2.2.1 4), wRow K (fun _ => hVAL 6) 100 (q1.2.2.2.1 5), wRow K (fun _ => hVAL 7) 100 (q1.2.2.2.1 6), wRow K (fun _ => hVAL 8) 100 (q1.2.2.2.1 7), wTab K hTab sTab, wProg K hProg (hTab 0) q1.2.2.2.2.1, wWalk K hWalk (hFld 0) (hTab 0) (hProg 0) (hLps 0) q1.2.2.2.2.2.1, wFld K hFld q1.2.2.2.2.2.2.1, wLps K hLps q1.2.2.2.2.2.2.2.1, wRea K hRea (hRR 0) (hTP 0) q1.2.2.2.2.2.2.2.2.1, wGO K hRR, wRow K (fun _ => hRR 1) 100 (q1.2.2.2.2.2.2.2.2.2.1 0), wRow K (fun _ => hRR 2) 100 (q1.2.2.2.2.2.2.2.2.2.1 1), wRow K (fun _ => hRR 3) 100 (q1.2.2.2.2.2.2.2.2.2.1 2), wRow K (fun _ => hRR 4) 100 (q1.2.2.2.2.2.2.2.2.2.1 3), wRow K (fun _ => hRR 5) 100 (q1.2.2.2.2.2.2.2.2.2.1 4), wRow K (fun _ => hRR 6) 100 (q1.2.2.2.2.2.2.2.2.2.1 5), wRow K (fun _ => hRR 7) 100 (q1.2.2.2.2.2.2.2.2.2.1 6), wRow K (fun _ => hRR 8) 100 (q1.2.2.2.2.2.2.2.2.2.1 7), wBits K hTP 1000 q1.2.2.2.2.2.2.2.2.2.2, wRow K hRW nRW sRW]) := hD
    refine W.eq (g2 := F0 m 6 ls [.int q1.2.1, .int 0, .ref (hRW 0)]) rfl ?_
    refine lv_i2l (pc := 6) hx hb d_Law_read_6 rfl ?_
    obtain ⟨hi2, hf⟩ := o_gi_e hf
    refine va_last (D := D) (pc := 7) hx hb hK hP hD hS _ 1 (fl_at 26 0 rfl rfl) rfl hi2 d_Law_read_7 (fun H locs hP hD hS => ?_)
    obtain ⟨sRW_3, esRW_3, hf⟩ := o_lt_e hf
    have hP : va_P D vwCl (fl [wX K hX (hTab 0) (hProg 0) (hWalk 0) (hWri 0) (hRea 0) (hTP 0) (hGrd 0) (hVAL 0) q1.2.2.1, wGO K hVAL, wRow K (fun _ => hVAL 1) 100 (q1.2.2.2.1 0), wRow K (fun _ => hVAL 2) 100 (q1.2.2.2.1 1), wRow K (fun _ => hVAL 3) 100 (q1.2.2.2.1 2), wRow K (fun _ => hVAL 4) 100 (q1.2.2.2.1 3), wRow K (fun _ => hVAL 5) 100 (q1.2.2.2.1 4), wRow K (fun _ => hVAL 6) 100 (q1.2.2.2.1 5), wRow K (fun _ => hVAL 7) 100 (q1.2.2.2.1 6), wRow K (fun _ => hVAL 8) 100 (q1.2.2.2.1 7), wTab K hTab sTab, wProg K hProg (hTab 0) q1.2.2.2.2.1, wWalk K hWalk (hFld 0) (hTab 0) (hProg 0) (hLps 0) q1.2.2.2.2.2.1, wFld K hFld q1.2.2.2.2.2.2.1, wLps K hLps q1.2.2.2.2.2.2.2.1, wRea K hRea (hRR 0) (hTP 0) q1.2.2.2.2.2.2.2.2.1, wGO K hRR, wRow K (fun _ => hRR 1) 100 (q1.2.2.2.2.2.2.2.2.2.1 0), wRow K (fun _ => hRR 2) 100 (q1.2.2.2.2.2.2.2.2.2.1 1), wRow K (fun _ => hRR 3) 100 (q1.2.2.2.2.2.2.2.2.2.1 2), wRow K (fun _ => hRR 4) 100 (q1.2.2.2.2.2.2.2.2.2.1 3), wRow K (fun _ => hRR 5) 100 (q1.2.2.2.2.2.2.2.2.2.1 4), wRow K (fun _ => hRR 6) 100 (q1.2.2.2.2.2.2.2.2.2.1 5), wRow K (fun _ => hRR 7) 100 (q1.2.2.2.2.2.2.2.2.2.1 6), wRow K (fun _ => hRR 8) 100 (q1.2.2.2.2.2.2.2.2.2.1 7), wBits K hTP 1000 q1.2.2.2.2.2.2.2.2.2.2, wRow K hRW nRW sRW_3]) H := by rw [esRW_3]; exact fl_P 26 0 rfl (Nat.le_of_ble_eq_true rfl) rfl rfl hP
    have hD : va_D A (fl [wX K hX (hTab 0) (hProg 0) (hWalk 0) (hWri 0) (hRea 0) (hTP 0) (hGrd 0) (hVAL 0) q1.2.2.1, wGO K hVAL, wRow K (fun _ => hVAL 1) 100 (q1.2.2.2.1 0), wRow K (fun _ => hVAL 2) 100 (q1.2.2.2.1 1), wRow K (fun _ => hVAL 3) 100 (q1.2.2.2.1 2), wRow K (fun _ => hVAL 4) 100 (q1.2.2.2.1 3), wRow K (fun _ => hVAL 5) 100 (q1.2.2.2.1 4), wRow K (fun _ => hVAL 6) 100 (q1.2.2.2.1 5), wRow K (fun _ => hVAL 7) 100 (q1.2.2.2.1 6), wRow K (fun _ => hVAL 8) 100 (q1.2.2.2.1 7), wTab K hTab sTab, wProg K hProg (hTab 0) q1.2.2.2.2.1, wWalk K hWalk (hFld 0) (hTab 0) (hProg 0) (hLps 0) q1.2.2.2.2.2.1, wFld K hFld q1.2.2.2.2.2.2.1, wLps K hLps q1.2.2.2.2.2.2.2.1, wRea K hRea (hRR 0) (hTP 0) q1.2.2.2.2.2.2.2.2.1, wGO K hRR, wRow K (fun _ => hRR 1) 100 (q1.2.2.2.2.2.2.2.2.2.1 0), wRow K (fun _ => hRR 2) 100 (q1.2.2.2.2.2.2.2.2.2.1 1), wRow K (fun _ => hRR 3) 100 (q1.2.2.2.2.2.2.2.2.2.1 2), wRow K (fun _ => hRR 4) 100 (q1.2.2.2.2.2.2.2.2.2.1 3), wRow K (fun _ => hRR 5) 100 (q1.2.2.2.2.2.2.2.2.2.1 4), wRow K (fun _ => hRR 6) 100 (q1.2.2.2.2.2.2.2.2.2.1 5), wRow K (fun _ => hRR 7) 100 (q1.2.2.2.2.2.2.2.2.2.1 6), wRow K (fun _ => hRR 8) 100 (q1.2.2.2.2.2.2.2.2.2.1 7), wBits K hTP 1000 q1.2.2.2.2.2.2.2.2.2.2, wRow K hRW nRW sRW_3]) := by rw [esRW_3]; exact fl_D 26 0 rfl (Nat.le_of_ble_eq_true rfl) rfl rfl hD
    refine lv_goto (tgt := 14) (pc := 8) hx hb d_Law_read_8 (by decide) ?_
    refine lv_iconst (v := 0) (pc := 14) hx hb d_Law_read_14 (by decide) ?_
    cases hf
    exact ret_w hx hb hr hlocks hK hP hS d_Law_read_15
  · replace hf := o_f hx0 hf
    have hP : va_P D vwCl (fl [wX K hX (hTab 0) (hProg 0) (hWalk 0) (hWri 0) (hRea 0) (hTP 0) (hGrd 0) (hVAL 0) q1.2.2.1, wGO K hVAL, wRow K (fun _ => hVAL 1) 100 (q1.2.2.2.1 0), wRow K (fun _ => hVAL 2) 100 (q1.2.2.2.1 1), wRow K (fun _ => hVAL 3) 100 (q1.2.2.2.1 2), wRow K (fun _ => hVAL 4) 100 (q1.2.2.2.1 3), wRow K (fun _ => hVAL 5) 100 (q1.2.2.2.1 4), wRow K (fun _ => hVAL 6) 100 (q1.2.2.2.1 5), wRow K (fun _ => hVAL 7) 100 (q1.2.2.2.1 6), wRow K (fun _ => hVAL 8) 100 (q1.2.2.2.1 7), wTab K hTab sTab, wProg K hProg (hTab 0) q1.2.2.2.2.1, wWalk K hWalk (hFld 0) (hTab 0) (hProg 0) (hLps 0) q1.2.2.2.2.2.1, wFld K hFld q1.2.2.2.2.2.2.1, wLps K hLps q1.2.2.2.2.2.2.2.1, wRea K hRea (hRR 0) (hTP 0) q1.2.2.2.2.2.2.2.2.1, wGO K hRR, wRow K (fun _ => hRR 1) 100 (q1.2.2.2.2.2.2.2.2.2.1 0), wRow K (fun _ => hRR 2) 100 (q1.2.2.2.2.2.2.2.2.2.1 1), wRow K (fun _ => hRR 3) 100 (q1.2.2.2.2.2.2.2.2.2.1 2), wRow K (fun _ => hRR 4) 100 (q1.2.2.2.2.2.2.2.2.2.1 3), wRow K (fun _ => hRR 5) 100 (q1.2.2.2.2.2.2.2.2.2.1 4), wRow K (fun _ => hRR 6) 100 (q1.2.2.2.2.2.2.2.2.2.1 5), wRow K (fun _ => hRR 7) 100 (q1.2.2.2.2.2.2.2.2.2.1 6), wRow K (fun _ => hRR 8) 100 (q1.2.2.2.2.2.2.2.2.2.1 7), wBits K hTP 1000 q1.2.2.2.2.2.2.2.2.2.2, wRow K hRW nRW sRW]) H := hP
    have hD : va_D A (fl [wX K hX (hTab 0) (hProg 0) (hWalk 0) (hWri 0) (hRea 0) (hTP 0) (hGrd 0) (hVAL 0) q1.2.2.1, wGO K hVAL, wRow K (fun _ => hVAL 1) 100 (q1.2.2.2.1 0), wRow K (fun _ => hVAL 2) 100 (q1.2.2.2.1 1), wRow K (fun _ => hVAL 3) 100 (q1.2.2.2.1 2), wRow K (fun _ => hVAL 4) 100 (q1.2.2.2.1 3), wRow K (fun _ => hVAL 5) 100 (q1.2.2.2.1 4), wRow K (fun _ => hVAL 6) 100 (q1.2.2.2.1 5), wRow K (fun _ => hVAL 7) 100 (q1.2.2.2.1 6), wRow K (fun _ => hVAL 8) 100 (q1.2.2.2.1 7), wTab K hTab sTab, wProg K hProg (hTab 0) q1.2.2.2.2.1, wWalk K hWalk (hFld 0) (hTab 0) (hProg 0) (hLps 0) q1.2.2.2.2.2.1, wFld K hFld q1.2.2.2.2.2.2.1, wLps K hLps q1.2.2.2.2.2.2.2.1, wRea K hRea (hRR 0) (hTP 0) q1.2.2.2.2.2.2.2.2.1, wGO K hRR, wRow K (fun _ => hRR 1) 100 (q1.2.2.2.2.2.2.2.2.2.1 0), wRow K (fun _ => hRR 2) 100 (q1.2.2.2.2.2.2.2.2.2.1 1), wRow K (fun _ => hRR 3) 100 (q1.2.2.2.2.2.2.2.2.2.1 2), wRow K (fun _ => hRR 4) 100 (q1.2.2.2.2.2.2.2.2.2.1 3), wRow K (fun _ => hRR 5) 100 (q1.2.2.2.2.2.2.2.2.2.1 4), wRow K (fun _ => hRR 6) 100 (q1.2.2.2.2.2.2.2.2.2.1 5), wRow K (fun _ => hRR 7) 100 (q1.2.2.2.2.2.2.2.2.2.1 6), wRow K (fun _ => hRR 8) 100 (q1.2.2.2.2.2.2.2.2.2.1 7), wBits K hTP 1000 q1.2.2.2.2.2.2.2.2.2.2, wRow K hRW nRW sRW]) := hD
    rcases Classical.em (q1.1 = 1) with c4 | c4
    · replace hf := o_t c4 hf
      refine ca_W (hp := 11) (hits_1 (cls := "java/lang/IllegalArgumentException") hown htab ⟨by decide, by decide⟩ (by decide) (hts _ (List.mem_cons_of_mem _ tw_674)) (va_Nw.use rfl (hF.2.1.2.2.2.2 _ ck_1)) (by rw [c4, exN_1] at hXk; exact hXk)) (Vm.classAt_of_findClass hXk) hXc hXo ?_
      refine lv_astore_n (lv' := [(2, .ref aX), (0, .ref (hX 0)), (1, .ref (hRW 0))]) (pc := 11) hx hb d_Law_read_11 rfl hl (by decide) rfl (fun ls hl => ?_)
      refine lv_iconst (v := 1) (pc := 12) hx hb d_Law_read_12 (by decide) ?_
      cases hf
      exact ret_w hx hb hr hlocks hK hP hS d_Law_read_13
    · replace hf := o_f c4 hf
      exact absurd hf (fun h => nomatch h)
def Law_point (sX : S_X) (a1 : Int32) (a2 : Int64) (sGrd : S_Grd) : Option (Int32 × S_Grd) := o_bd (X_point sX a1 a2 sGrd) fun q1 => (if q1.1 = 0 then some ((0, q1.2)) else if q1.1 = 3 then some ((1, q1.2)) else if q1.1 = 1 then some ((2, q1.2)) else none)
abbrev rm_Law_point : Room := { frames := 7, cells := 1, slots := 6, locals := 105 }
set_option maxHeartbeats 4000000 in
set_option maxRecDepth 100000 in
theorem c_Law_point (l : Launch) (D : va_G) (K : Nat → ClassId) (htr : ∀ e : Env, l.admits e → e.platform.stackTraces = false) (hX : Nat → Nat) (hVAL : Nat → Nat) (hTab : Nat → Nat) (hProg : Nat → Nat) (hWalk : Nat → Nat) (hWri : Nat → Nat) (hRea : Nat → Nat) (hTP : Nat → Nat) (hGrd : Nat → Nat) (sX : S_X) (sGrd : S_Grd) (a1 : Int32) (a2 : Int64) (r : Int32) (sGrd' : S_Grd) (hf : Law_point sX a1 a2 sGrd = some ((r, sGrd'))) : mw l D K y_Law_point ws_Law_point rm_Law_point [.ref (hX 0), .int a1, .long a2] (fl [wX K hX (hTab 0) (hProg 0) (hWalk 0) (hWri 0) (hRea 0) (hTP 0) (hGrd 0) (hVAL 0) sX, wGrd K hGrd sGrd]) (fl [wX K hX (hTab 0) (hProg 0) (hWalk 0) (hWri 0) (hRea 0) (hTP 0) (hGrd 0) (hVAL 0) sX, wGrd K hGrd sGrd']) r := by
  refine mw_of (cc := b_Law_point) (maxL := 5) (own := "ObsMessagesLaw") (by decide) rfl rfl (Nat.le_of_ble_eq_true rfl) ?_
  intro p e s m below meth c A ls hC htab hP hD hS hl
  obtain ⟨hx, hb, hml, hown, hts, hr, hlocks, hK, hF, hA⟩ := hC
  have hP : va_P D vwCl (fl [wX K hX (hTab 0) (hProg 0) (hWalk 0) (hWri 0) (hRea 0) (hTP 0) (hGrd 0) (hVAL 0) sX, wGrd K hGrd sGrd]) s.heap := hP
  have hl : lv_has ls 5 [(0, .ref (hX 0)), (1, .int a1), (2, .long a2)] := hl
  suffices hW : ∀ (H : Heap) (locs : List Loc), va_P D vwCl (fl [wX K hX (hTab 0) (hProg 0) (hWalk 0) (hWri 0) (hRea 0) (hTP 0) (hGrd 0) (hVAL 0) sX, wGrd K hGrd sGrd]) H → va_S A s.heap H locs → W p l e rm_Law_point s m ([.ref (hX 0), .int a1, .long a2] : List Value).toArray below meth c H locs 0 0 (Qw below ([.ref (hX 0), .int a1, .long a2] : List Value).toArray s D K A (fl [wX K hX (hTab 0) (hProg 0) (hWalk 0) (hWri 0) (hRea 0) (hTP 0) (hGrd 0) (hVAL 0) sX, wGrd K hGrd sGrd']) r) (F0 m 0 ls []) from hW s.heap [] hP hS
  clear hP hS
  intro H locs hP hS
  refine lv_aload_n (pc := 0) hx hb d_Law_point_0 rfl (lv_at hl 0 rfl) ?_
  refine lv_iload_n (pc := 1) hx hb d_Law_point_1 rfl (lv_at hl 1 rfl) ?_
  refine lv_lload_n (pc := 2) hx hb d_Law_point_2 rfl (lv_at hl 2 rfl) ?_
  obtain ⟨q1, hq1, hf⟩ := o_bd_e hf
  refine fi_t (pc := 3) (run_T (As := [.int a1, .long a2]) (rest := []) ⟨hx, hb, hml, hown, hts⟩ ((c_X_point l D K htr hX hVAL hTab hProg hWalk hWri hRea hTP hGrd sX sGrd a1 a2 q1.1 q1.2 hq1) _) (cwV 2 hts (gV tw_1036 tw_1037 tw_1038 tw_1 tw_1039) rfl rfl rfl (by decide +kernel) ⟨by decide, by decide⟩) ⟨mPre_blind, va_recv hK hP (ci := 0) rfl (fl_at 0 0 rfl rfl), (mPre_fl hK hF hA hP hD hS [0, 1] rfl rfl)⟩ rfl rfl hl.1 rfl (lv_room (Nat.le_of_ble_eq_true rfl)) d_Law_point_3 ⟨Nat.le_refl _, Nat.le_refl _⟩) hA hP hD hS [0, 1] rfl rfl (fun hx0 H locs hP hD hS => ?_) (fun hx0 H locs aX cX hP hD hS hXc hXo hXk => ?_)
  · replace hf := o_t hx0 hf
    have hP : va_P D vwCl (fl [wX K hX (hTab 0) (hProg 0) (hWalk 0) (hWri 0) (hRea 0) (hTP 0) (hGrd 0) (hVAL 0) sX, wGrd K hGrd q1.2]) H := hP
    have hD : va_D A (fl [wX K hX (hTab 0) (hProg 0) (hWalk 0) (hWri 0) (hRea 0) (hTP 0) (hGrd 0) (hVAL 0) sX, wGrd K hGrd q1.2]) := hD
    refine W.eq (g2 := F0 m 6 ls []) rfl ?_
    refine lv_goto (tgt := 17) (pc := 6) hx hb d_Law_point_6 (by decide) ?_
    refine lv_iconst (v := 0) (pc := 17) hx hb d_Law_point_17 (by decide) ?_
    cases hf
    exact ret_w hx hb hr hlocks hK hP hS d_Law_point_18
  · replace hf := o_f hx0 hf
    have hP : va_P D vwCl (fl [wX K hX (hTab 0) (hProg 0) (hWalk 0) (hWri 0) (hRea 0) (hTP 0) (hGrd 0) (hVAL 0) sX, wGrd K hGrd q1.2]) H := hP
    have hD : va_D A (fl [wX K hX (hTab 0) (hProg 0) (hWalk 0) (hWri 0) (hRea 0) (hTP 0) (hGrd 0) (hVAL 0) sX, wGrd K hGrd q1.2]) := hD
    rcases Classical.em (q1.1 = 3) with c2 | c2
    · replace hf := o_t c2 hf
      refine ca_W (hp := 9) (hits_1 (cls := "java/lang/IndexOutOfBoundsException") hown htab ⟨by decide, by decide⟩ (by decide) (hts _ (List.mem_cons_of_mem _ tw_835)) (va_Nw.use rfl (hF.2.1.2.2.2.2 _ ck_3)) (by rw [c2, exN_3] at hXk; exact hXk)) (Vm.classAt_of_findClass hXk) hXc hXo ?_
      refine lv_astore (lv' := [(4, .ref aX), (0, .ref (hX 0)), (1, .int a1), (2, .long a2)]) (pc := 9) hx hb d_Law_point_9 hl (by decide) rfl (fun ls hl => ?_)
      refine lv_iconst (v := 1) (pc := 11) hx hb d_Law_point_11 (by decide) ?_
      cases hf
      exact ret_w hx hb hr hlocks hK hP hS d_Law_point_12
    · replace hf := o_f c2 hf
      rcases Classical.em (q1.1 = 1) with c3 | c3
      · replace hf := o_t c3 hf
        refine ca_W (hp := 13) (hits_2 (cls := "java/lang/IllegalArgumentException") (cls1 := "java/lang/IndexOutOfBoundsException") hown htab ⟨⟨by decide, by decide⟩, by decide, by decide⟩ ⟨by decide, by decide⟩ (hts _ (List.mem_cons_of_mem _ tw_835)) (hts _ (List.mem_cons_of_mem _ tw_674)) (va_Nw.use rfl (hF.2.1.2.2.2.2 _ ck_1)) (by rw [c3, exN_1] at hXk; exact hXk) (hF.2.1.1 ("java/lang/IllegalArgumentException", "java/lang/IndexOutOfBoundsException") (by decide))) (Vm.classAt_of_findClass hXk) hXc hXo ?_
        refine lv_astore (lv' := [(4, .ref aX), (0, .ref (hX 0)), (1, .int a1), (2, .long a2)]) (pc := 13) hx hb d_Law_point_13 hl (by decide) rfl (fun ls hl => ?_)
        refine lv_iconst (v := 2) (pc := 15) hx hb d_Law_point_15 (by decide) ?_
        cases hf
        exact ret_w hx hb hr hlocks hK hP hS d_Law_point_16
      · replace hf := o_f c3 hf
        exact absurd hf (fun h => nomatch h)
def Law_pack (fu : Nat) (nRW : Nat) (sX : S_X) (a1 : Int32) (sGrd : S_Grd) (sRW : (Nat → Int64)) : Option (Int32 × S_Grd × (Nat → Int64)) := o_bd (X_pack fu sX a1 sGrd) fun q1 => (if q1.1 = 0 then o_gd (o_in 0 nRW) (o_lt (vp_updL sRW (0 : Int32).toNatClampNeg ((q1.2.1 : Int32).toInt64)) fun sRW_3 => (some ((0, q1.2.2, sRW_3)))) else if q1.1 = 1 then some ((1, q1.2.2, sRW)) else if q1.1 = 2 then some ((2, q1.2.2, sRW)) else none)
abbrev rm_Law_pack : Room := { frames := 7, cells := 1, slots := 6, locals := 104 }
set_option maxHeartbeats 4000000 in
set_option maxRecDepth 100000 in
theorem c_Law_pack (l : Launch) (D : va_G) (K : Nat → ClassId) (htr : ∀ e : Env, l.admits e → e.platform.stackTraces = false) (fu : Nat) (hX : Nat → Nat) (hVAL : Nat → Nat) (hTab : Nat → Nat) (hProg : Nat → Nat) (hWalk : Nat → Nat) (hWri : Nat → Nat) (hRea : Nat → Nat) (hTP : Nat → Nat) (hGrd : Nat → Nat) (hRW : Nat → Nat) (nRW : Nat) (sX : S_X) (sGrd : S_Grd) (sRW : (Nat → Int64)) (a1 : Int32) (r : Int32) (sGrd' : S_Grd) (sRW' : (Nat → Int64)) (hf : Law_pack fu nRW sX a1 sGrd sRW = some ((r, sGrd', sRW'))) : mw l D K y_Law_pack ws_Law_pack rm_Law_pack [.ref (hX 0), .int a1, .ref (hRW 0)] (fl [wX K hX (hTab 0) (hProg 0) (hWalk 0) (hWri 0) (hRea 0) (hTP 0) (hGrd 0) (hVAL 0) sX, wGrd K hGrd sGrd, wRow K hRW nRW sRW]) (fl [wX K hX (hTab 0) (hProg 0) (hWalk 0) (hWri 0) (hRea 0) (hTP 0) (hGrd 0) (hVAL 0) sX, wGrd K hGrd sGrd', wRow K hRW nRW sRW']) r := by
  refine mw_of (cc := b_Law_pack) (maxL := 4) (own := "ObsMessagesLaw") (by decide) rfl rfl (Nat.le_of_ble_eq_true rfl) ?_
  intro p e s m below meth c A ls hC htab hP hD hS hl
  obtain ⟨hx, hb, hml, hown, hts, hr, hlocks, hK, hF, hA⟩ := hC
  have hP : va_P D vwCl (fl [wX K hX (hTab 0) (hProg 0) (hWalk 0) (hWri 0) (hRea 0) (hTP 0) (hGrd 0) (hVAL 0) sX, wGrd K hGrd sGrd, wRow K hRW nRW sRW]) s.heap := hP
  have hl : lv_has ls 4 [(0, .ref (hX 0)), (1, .int a1), (2, .ref (hRW 0))] := hl
  suffices hW : ∀ (H : Heap) (locs : List Loc), va_P D vwCl (fl [wX K hX (hTab 0) (hProg 0) (hWalk 0) (hWri 0) (hRea 0) (hTP 0) (hGrd 0) (hVAL 0) sX, wGrd K hGrd sGrd, wRow K hRW nRW sRW]) H → va_S A s.heap H locs → W p l e rm_Law_pack s m ([.ref (hX 0), .int a1, .ref (hRW 0)] : List Value).toArray below meth c H locs 0 0 (Qw below ([.ref (hX 0), .int a1, .ref (hRW 0)] : List Value).toArray s D K A (fl [wX K hX (hTab 0) (hProg 0) (hWalk 0) (hWri 0) (hRea 0) (hTP 0) (hGrd 0) (hVAL 0) sX, wGrd K hGrd sGrd', wRow K hRW nRW sRW']) r) (F0 m 0 ls []) from hW s.heap [] hP hS
  clear hP hS
  intro H locs hP hS
  refine lv_aload_n (pc := 0) hx hb d_Law_pack_0 rfl (lv_at hl 2 rfl) ?_
  refine lv_iconst (v := 0) (pc := 1) hx hb d_Law_pack_1 (by decide) ?_
  refine lv_aload_n (pc := 2) hx hb d_Law_pack_2 rfl (lv_at hl 0 rfl) ?_
  refine lv_iload_n (pc := 3) hx hb d_Law_pack_3 rfl (lv_at hl 1 rfl) ?_
  obtain ⟨q1, hq1, hf⟩ := o_bd_e hf
  refine fi_t (pc := 4) (run_T (As := [.int a1]) (rest := [.int 0, .ref (hRW 0)]) ⟨hx, hb, hml, hown, hts⟩ ((c_X_pack l D K htr fu hX hVAL hTab hProg hWalk hWri hRea hTP hGrd sX sGrd a1 q1.1 q1.2.1 q1.2.2 hq1) _) (cwV 1 hts (gV tw_1047 tw_1048 tw_1049 tw_1 tw_1050) rfl rfl rfl (by decide +kernel) ⟨by decide, by decide⟩) ⟨mPre_blind, va_recv hK hP (ci := 0) rfl (fl_at 0 0 rfl rfl), (mPre_fl hK hF hA hP hD hS [0, 1] rfl rfl)⟩ rfl rfl hl.1 rfl (lv_room (Nat.le_of_ble_eq_true rfl)) d_Law_pack_4 ⟨Nat.le_refl _, Nat.le_refl _⟩) hA hP hD hS [0, 1] rfl rfl (fun hx0 H locs hP hD hS => ?_) (fun hx0 H locs aX cX hP hD hS hXc hXo hXk => ?_)
  · replace hf := o_t hx0 hf
    have hP : va_P D vwCl (fl [wX K hX (hTab 0) (hProg 0) (hWalk 0) (hWri 0) (hRea 0) (hTP 0) (hGrd 0) (hVAL 0) sX, wGrd K hGrd q1.2.2, wRow K hRW nRW sRW]) H := hP
    have hD : va_D A (fl [wX K hX (hTab 0) (hProg 0) (hWalk 0) (hWri 0) (hRea 0) (hTP 0) (hGrd 0) (hVAL 0) sX, wGrd K hGrd q1.2.2, wRow K hRW nRW sRW]) := hD
    refine W.eq (g2 := F0 m 7 ls [.int q1.2.1, .int 0, .ref (hRW 0)]) rfl ?_
    refine lv_i2l (pc := 7) hx hb d_Law_pack_7 rfl ?_
    obtain ⟨hi2, hf⟩ := o_gi_e hf
    refine va_last (D := D) (pc := 8) hx hb hK hP hD hS _ 1 (fl_at 2 0 rfl rfl) rfl hi2 d_Law_pack_8 (fun H locs hP hD hS => ?_)
    obtain ⟨sRW_3, esRW_3, hf⟩ := o_lt_e hf
    have hP : va_P D vwCl (fl [wX K hX (hTab 0) (hProg 0) (hWalk 0) (hWri 0) (hRea 0) (hTP 0) (hGrd 0) (hVAL 0) sX, wGrd K hGrd q1.2.2, wRow K hRW nRW sRW_3]) H := by rw [esRW_3]; exact fl_P 2 0 rfl (Nat.le_of_ble_eq_true rfl) rfl rfl hP
    have hD : va_D A (fl [wX K hX (hTab 0) (hProg 0) (hWalk 0) (hWri 0) (hRea 0) (hTP 0) (hGrd 0) (hVAL 0) sX, wGrd K hGrd q1.2.2, wRow K hRW nRW sRW_3]) := by rw [esRW_3]; exact fl_D 2 0 rfl (Nat.le_of_ble_eq_true rfl) rfl rfl hD
    refine lv_goto (tgt := 18) (pc := 9) hx hb d_Law_pack_9 (by decide) ?_
    refine lv_iconst (v := 0) (pc := 18) hx hb d_Law_pack_18 (by decide) ?_
    cases hf
    exact ret_w hx hb hr hlocks hK hP hS d_Law_pack_19
  · replace hf := o_f hx0 hf
    have hP : va_P D vwCl (fl [wX K hX (hTab 0) (hProg 0) (hWalk 0) (hWri 0) (hRea 0) (hTP 0) (hGrd 0) (hVAL 0) sX, wGrd K hGrd q1.2.2, wRow K hRW nRW sRW]) H := hP
    have hD : va_D A (fl [wX K hX (hTab 0) (hProg 0) (hWalk 0) (hWri 0) (hRea 0) (hTP 0) (hGrd 0) (hVAL 0) sX, wGrd K hGrd q1.2.2, wRow K hRW nRW sRW]) := hD
    rcases Classical.em (q1.1 = 1) with c4 | c4
    · replace hf := o_t c4 hf
      refine ca_W (hp := 12) (hits_1 (cls := "java/lang/IllegalArgumentException") hown htab ⟨by decide, by decide⟩ (by decide) (hts _ (List.mem_cons_of_mem _ tw_674)) (va_Nw.use rfl (hF.2.1.2.2.2.2 _ ck_1)) (by rw [c4, exN_1] at hXk; exact hXk)) (Vm.classAt_of_findClass hXk) hXc hXo ?_
      refine lv_astore_n (lv' := [(3, .ref aX), (0, .ref (hX 0)), (1, .int a1), (2, .ref (hRW 0))]) (pc := 12) hx hb d_Law_pack_12 rfl hl (by decide) rfl (fun ls hl => ?_)
      refine lv_iconst (v := 1) (pc := 13) hx hb d_Law_pack_13 (by decide) ?_
      cases hf
      exact ret_w hx hb hr hlocks hK hP hS d_Law_pack_14
    · replace hf := o_f c4 hf
      rcases Classical.em (q1.1 = 2) with c5 | c5
      · replace hf := o_t c5 hf
        refine ca_W (hp := 15) (hits_2 (cls := "java/lang/IllegalStateException") (cls1 := "java/lang/IllegalArgumentException") hown htab ⟨⟨by decide, by decide⟩, by decide, by decide⟩ ⟨by decide, by decide⟩ (hts _ (List.mem_cons_of_mem _ tw_674)) (hts _ (List.mem_cons_of_mem _ tw_765)) (va_Nw.use rfl (hF.2.1.2.2.2.2 _ ck_2)) (by rw [c5, exN_2] at hXk; exact hXk) (hF.2.1.1 ("java/lang/IllegalStateException", "java/lang/IllegalArgumentException") (by decide))) (Vm.classAt_of_findClass hXk) hXc hXo ?_
        refine lv_astore_n (lv' := [(3, .ref aX), (0, .ref (hX 0)), (1, .int a1), (2, .ref (hRW 0))]) (pc := 15) hx hb d_Law_pack_15 rfl hl (by decide) rfl (fun ls hl => ?_)
        refine lv_iconst (v := 2) (pc := 16) hx hb d_Law_pack_16 (by decide) ?_
        cases hf
        exact ret_w hx hb hr hlocks hK hP hS d_Law_pack_17
      · replace hf := o_f c5 hf
        exact absurd hf (fun h => nomatch h)
