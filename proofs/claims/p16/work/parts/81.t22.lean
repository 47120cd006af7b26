-- numbers of so many bits
def mo (w : Int32) : Int64 := (1 <<< ((w : Int32).toInt64 &&& 63)) - 1
theorem mo_k : ∀ k : Fin 41, (mo (Int32.ofNat k.val)).toInt = 2 ^ k.val - 1 := by
  unfold mo
  decide +kernel
theorem mo_nat {w : Int32} {k : Nat} (h : w.toInt = (k : Int)) (hk : k ≤ 40) : (mo w).toInt = 2 ^ k - 1 := by
  have e : w = Int32.ofNat k := i_eq.mpr (by rw [i_of (by omega)]; exact h)
  rw [e]
  exact mo_k ⟨k, by omega⟩
theorem mo_r {w : Int32} (h0 : 0 ≤ w.toInt) (h1 : w.toInt ≤ 32) : 0 ≤ (mo w).toInt ∧ (mo w).toInt ≤ 4294967295 := by
  obtain ⟨k, hk⟩ : ∃ k : Nat, w.toInt = (k : Int) := ⟨w.toInt.toNat, by omega⟩
  rw [mo_nat hk (by omega)]
  have a1 : (1 : Int) ≤ 2 ^ k := by exact_mod_cast (Nat.one_le_two_pow : 1 ≤ 2 ^ k)
  have a2 : (2 : Int) ^ k ≤ 2 ^ 32 := by exact_mod_cast (Nat.pow_le_pow_right (by decide) (by omega) : 2 ^ k ≤ 2 ^ 32)
  have a3 : (2 : Int) ^ 32 = 4294967296 := by decide
  omega
theorem i64_bm {x : Int} (h1 : -9223372036854775808 ≤ x) (h2 : x < 9223372036854775808) : x.bmod (2 ^ 64) = x := by
  unfold Int.bmod
  have e : ((2 ^ 64 : Nat) : Int) = 18446744073709551616 := by decide
  rw [e]
  dsimp only
  split <;> omega
theorem i64_sub {a b : Int64} (h1 : -9223372036854775808 ≤ a.toInt - b.toInt) (h2 : a.toInt - b.toInt < 9223372036854775808) : (a - b).toInt = a.toInt - b.toInt := by
  rw [Int64.toInt_sub]
  exact i64_bm h1 h2
-- a raw number that is not missing
theorem vc_raw {v : Int64} {k w : Int32} {b : Int64} (hw0 : 0 ≤ w.toInt) (hw1 : w.toInt ≤ 32) (h : VC1 v k w b) : (k = 3 ∧ 0 ≤ v.toInt ∧ v.toInt ≤ 1) ∨ (k ≠ 3 ∧ v = (-9000000000000000000)) ∨ (k ≠ 3 ∧ v ≠ (-9000000000000000000) ∧ 0 ≤ (v - b).toInt ∧ (v - b).toInt ≤ 4294967294) := by
  have k0 : (0 : Int64).toInt = 0 := by decide
  have k1 : (1 : Int64).toInt = 1 := by decide
  rcases h with ⟨h1, h2⟩ | ⟨h1, h2⟩
  · refine Or.inl ⟨h1, ?_⟩
    rcases h2 with h2 | h2
    · rw [h2]; decide
    · rw [h2]; decide
  · by_cases hm : v = (-9000000000000000000)
    · exact Or.inr (Or.inl ⟨h1, hm⟩)
    · rcases h2 with h2 | ⟨h2, h3⟩
      · exact absurd h2 hm
      · refine Or.inr (Or.inr ⟨h1, hm, ?_⟩)
        rw [i64_lt] at h2
        rw [i64_le] at h3
        have hr := mo_r hw0 hw1
        have e := i64_sub (a := mo w) (b := 1) (by omega) (by omega)
        have h3' : (v - b).toInt ≤ (mo w - 1).toInt := h3
        omega
-- keeping the first walk
theorem t_keep_L {fu : Nat} {ki wd sc : Nat → Int32} {ba : Nat → Int64} {s : S_Mo} (I : I_Mo s) : ∀ (n k : Nat) (x : Int32) (fk fw fs : Nat → Int32) (fb : Nat → Int64), x.toInt = (k : Int) → k ≤ 100 → 100 - k < n → (∀ j, j < k → fk j = ki j ∧ fw j = wd j ∧ fb j = ba j) → So (Mod_keepFirst_L10 fu ki wd sc ba s n x fk fw fs fb) (fun r => r.1 = s ∧ ∀ j : Nat, (j : Int) < (Mo_fields s).toInt → r.2.1 j = ki j ∧ r.2.2.1 j = wd j ∧ r.2.2.2.2 j = ba j)
  | 0, k, x, fk, fw, fs, fb, _, _, h, _ => absurd h (by omega)
  | n + 1, k, x, fk, fw, fs, fb, hx, hk, hn, hi => by
    rw [Mod_keepFirst_L10]
    have hF := I_Mo_fields I
    have k1 : (1 : Int32).toInt = 1 := by decide
    refine So.ite (fun c => ?_) (fun c => ?_) <;> rw [i_le] at c
    · exact So.one ⟨rfl, fun j hj => hi j (by omega)⟩
    · have ix : x.toNatClampNeg = k := by
        have := i_nat (a := x) (by omega)
        omega
      have e1 := i_add (a := x) (b := 1) (by omega) (by omega)
      have g : o_in x 101 = true := i_in.mpr (by omega)
      refine So.gd g (So.gd g (So.lt (So.gd g (So.gd g (So.lt (So.gd g (So.gd g (So.lt (So.gd g (So.gd g (So.lt ?_)))))))))))
      rw [ix]
      refine t_keep_L I n (k + 1) (x + 1) _ _ _ _ (by omega) (by omega) (by omega) (fun j hj => ?_)
      by_cases e : j = k
      · rw [e, upd_at, upd_at, updL_at]
        exact ⟨rfl, rfl, rfl⟩
      · rw [upd_ne e, upd_ne e, updL_ne e]
        exact hi j (by omega)
theorem t_keepFirst {fu : Nat} {ki wd sc : Nat → Int32} {ba : Nat → Int64} {s : S_Mo} {fk fw fs : Nat → Int32} {fb : Nat → Int64} (hf : 12000 ≤ fu) (I : I_Mo s) : So (Mod_keepFirst fu ki wd sc ba s fk fw fs fb) (fun r => r.1 = Mo_set_firstFields s (Mo_fields s) ∧ ∀ j : Nat, (j : Int) < (Mo_fields s).toInt → r.2.1 j = ki j ∧ r.2.2.1 j = wd j ∧ r.2.2.2.2 j = ba j) := by
  unfold Mod_keepFirst
  refine So.lt ?_
  exact t_keep_L (I_Mo_set_firstFields I (I_Mo_fields I)) fu 0 0 _ _ _ _ rfl (by omega) (by omega) (fun j hj => absurd hj (by omega))
theorem t_isLike {s : S_Mo} {va : Nat → Int64} {ki wd sc : Nat → Int32} {ba : Nat → Int64} {fk fw fs : Nat → Int32} {fb : Nat → Int64} {a0 : Int32} (I : I_Mo s) (h0 : 0 ≤ a0.toInt) (h1 : a0.toInt < 100) : So (Mod_isLike s va ki wd sc ba fk fw fs fb a0) (fun r => r = 0 ∨ (ki a0.toNatClampNeg = fk a0.toNatClampNeg ∧ wd a0.toNatClampNeg = fw a0.toNatClampNeg ∧ ba a0.toNatClampNeg = fb a0.toNatClampNeg)) := by
  unfold Mod_isLike
  have g : o_in a0 101 = true := i_in.mpr (by omega)
  have g8 : o_in a0 800 = true := i_in.mpr (by omega)
  have hs := I_Mo_subset I
  have k100 : (100 : Int32).toInt = 100 := by decide
  have m1 := i_mull 100 (Mo_subset s) 100 (by decide) (by omega) (by omega)
  have m2 := i_add (a := 100 * Mo_subset s) (b := a0) (by omega) (by omega)
  have g9 : o_in (100 * Mo_subset s + a0) 800 = true := i_in.mpr (by omega)
  have j25 : ∀ t : Int32, So (Mod_isLike_j25 s va ki wd sc ba fk fw fs fb a0 t) (fun r => r = 0 ∨ (ki a0.toNatClampNeg = fk a0.toNatClampNeg ∧ wd a0.toNatClampNeg = fw a0.toNatClampNeg ∧ ba a0.toNatClampNeg = fb a0.toNatClampNeg)) := by
    intro t
    unfold Mod_isLike_j25
    refine So.gd g (So.gd g (So.ite (fun c1 => So.gd g (So.gd g (So.ite (fun c2 => So.gd g (So.gd g (So.ite (fun c3 => So.gd g (So.gd g (So.ite (fun c4 => So.ite (fun c5 => ?_) (fun c5 => So.gd g9 (So.gd g8 (So.ite (fun c6 => ?_) (fun c6 => ?_))))) (fun c4 => ?_)))) (fun c3 => ?_)))) (fun c2 => ?_)))) (fun c1 => ?_)))
    · exact So.one (Or.inr ⟨c1, c2, c4⟩)
    · exact So.one (Or.inr ⟨c1, c2, c4⟩)
    · exact So.one (Or.inl rfl)
    · exact So.one (Or.inl rfl)
    · exact So.one (Or.inl rfl)
    · exact So.one (Or.inl rfl)
    · exact So.one (Or.inl rfl)
  refine So.gd g (So.ite (fun _ => j25 1) (fun _ => So.gd g (So.ite (fun _ => j25 1) (fun _ => j25 0))))
-- packed fields
def KL (r s : S_Mo) : Prop := I_Mo r ∧ KM r s ∧ (Mo_fields r).toInt = (Mo_fields s).toInt ∧ (Mo_fault r).toInt = (Mo_fault s).toInt
theorem KL.trans {a b c : S_Mo} (h : KL a b) (g : KL b c) : KL a c := ⟨h.1, h.2.1.trans g.2.1, h.2.2.1.trans g.2.2.1, h.2.2.2.trans g.2.2.2⟩
theorem c_lay {fu : Nat} {v : Int64} {n : Int32} {s : S_Mo} {bi : Nat → Int32} (hf : 12000 ≤ fu) (I : I_Mo s) (h0 : 0 ≤ n.toInt) (h1 : n.toInt ≤ 120) (h2 : (Mo_many s).toInt + n.toInt ≤ 40000) : So (Mod_lay fu v n s bi) (fun r => KL r.1 s ∧ (Mo_many r.1).toInt = (Mo_many s).toInt + n.toInt) := by
  refine So.imp (t_Mod_lay hf I h0 h1 h2) fun r h => ?_
  obtain ⟨p1, p2, p3, p4, p5, p6, p7, p8, p9, p10, p11, p12, p13, p14⟩ := h
  exact ⟨⟨p1, p13, p5, p14⟩, p2⟩
theorem t_pack_L214 {fu : Nat} {va : Nat → Int64} {ki wd : Nat → Int32} {ba : Nat → Int64} {x1 x2 : Int32} {x3 : Int64} {x8 : Int32} (hf : 12000 ≤ fu) (h1 : 0 ≤ x1.toInt) (h2 : x1.toInt < 100) (h3 : x2.toInt ≤ 8) (h4 : 0 ≤ x8.toInt) (h5 : x8.toInt ≤ 32) (z : S_Mo) : ∀ (n k : Nat) (x : Int32) (s : S_Mo) (bi : Nat → Int32), x.toInt = (k : Int) → k ≤ 8 → 8 - k < n → KL s z → (Mo_many s).toInt ≤ (Mo_many z).toInt + 32 * k → (Mo_many z).toInt + 256 ≤ 40000 → So (Mod_layPacked_L214 fu va ki wd ba x1 x2 x3 x8 n x s bi) (fun r => KL r.1 z ∧ (Mo_many r.1).toInt ≤ (Mo_many z).toInt + 256)
  | 0, k, x, s, bi, _, _, h, _, _, _ => absurd h (by omega)
  | n + 1, k, x, s, bi, hx, hk, hn, K, hm, hz => by
    rw [Mod_layPacked_L214]
    have k1 : (1 : Int32).toInt = 1 := by decide
    have k100 : (100 : Int32).toInt = 100 := by decide
    refine So.ite (fun c => So.one ⟨K, by show (Mo_many s).toInt ≤ _; omega⟩) (fun c => ?_)
    rw [i_le] at c
    refine So.ite (fun c2 => So.one ⟨K, by show (Mo_many s).toInt ≤ _; omega⟩) (fun c2 => ?_)
    have e1 := i_add (a := x) (b := 1) (by omega) (by omega)
    have m1 := i_mull 100 x 100 (by decide) (by omega) (by omega)
    have m2 := i_add (a := 100 * x) (b := x1) (by omega) (by omega)
    have g : o_in (100 * x + x1) 800 = true := i_in.mpr (by omega)
    have nx : ∀ v : Int64, So (Mod_layPacked_j272 fu va ki wd ba (fun v0 v1 v2 => Mod_layPacked_L214 fu va ki wd ba x1 x2 x3 x8 n v0 v1 v2) x1 x2 x3 x8 x v s bi) (fun r => KL r.1 z ∧ (Mo_many r.1).toInt ≤ (Mo_many z).toInt + 256) := by
      intro v
      unfold Mod_layPacked_j272
      refine So.bd (c_lay hf K.1 h4 (by omega) (by omega)) fun q hq => ?_
      exact t_pack_L214 hf h1 h2 h3 h4 h5 z n (k + 1) (x + 1) q.1 q.2 (by omega) (by omega) (by omega) (hq.1.trans K) (by omega) hz
    refine So.gd g (So.ite (fun c3 => ?_) (fun c3 => So.gd g ?_))
    · refine So.bd t_Mod_most fun q _ => nx _
    · have hr : So (Mod_raw s ki wd ba x1 (va (100 * x + x1).toNatClampNeg)) (fun _ => True) := by
        unfold Mod_raw
        have g1 : o_in x1 101 = true := i_in.mpr (by omega)
        refine So.gd g1 (So.ite (fun _ => So.one trivial) (fun _ => So.ite (fun _ => So.gd g1 (So.bd t_Mod_most fun _ _ => So.one trivial)) (fun _ => So.gd g1 (So.one trivial))))
      exact So.bd hr fun q _ => nx _
theorem t_pack_j202 {fu : Nat} {va : Nat → Int64} {ki wd : Nat → Int32} {ba : Nat → Int64} {x1 x2 : Int32} {x3 : Int64} {x8 : Int32} {s : S_Mo} {bi : Nat → Int32} (hf : 12000 ≤ fu) (h1 : 0 ≤ x1.toInt) (h2 : x1.toInt < 100) (h3 : x2.toInt ≤ 8) (h4 : 0 ≤ x8.toInt) (h5 : x8.toInt ≤ 32) (I : I_Mo s) (hm : (Mo_many s).toInt + 262 ≤ 40000) : So (Mod_layPacked_j202 fu va ki wd ba x1 x2 x3 x8 s bi) (fun r => KL r.1 s ∧ (Mo_many r.1).toInt ≤ (Mo_many s).toInt + 262) := by
  unfold Mod_layPacked_j202
  have k6 : (6 : Int32).toInt = 6 := by decide
  refine So.bd (c_lay hf I (by decide) (by decide) (by omega)) fun q hq => ?_
  have K0 : KL q.1 q.1 := ⟨hq.1.1, KM.refl _, rfl, rfl⟩
  refine So.imp (t_pack_L214 hf h1 h2 h3 h4 h5 q.1 fu 0 0 q.1 q.2 rfl (by omega) (by omega) K0 (by omega) (by omega)) fun r hr => ⟨hr.1.trans hq.1, by omega⟩
theorem t_pack_L183 {fu : Nat} {va : Nat → Int64} {ki wd : Nat → Int32} {ba : Nat → Int64} {x1 x2 : Int32} {x3 x5 : Int64} {s : S_Mo} {bi : Nat → Int32} (hf : 12000 ≤ fu) (h1 : 0 ≤ x1.toInt) (h2 : x1.toInt < 100) (h3 : x2.toInt ≤ 8) (I : I_Mo s) (hm : (Mo_many s).toInt + 262 ≤ 40000) (hd : (x5 - x3).toInt ≤ 4294967294) : ∀ (n k : Nat) (x : Int32), x.toInt = (k : Int) → 1 ≤ k → k ≤ 32 → 32 - k < n → So (Mod_layPacked_L183 fu va ki wd ba x1 x2 x3 x5 s bi (fun y8 => Mod_layPacked_j202 fu va ki wd ba x1 x2 x3 y8 s bi) n x) (fun r => KL r.1 s ∧ (Mo_many r.1).toInt ≤ (Mo_many s).toInt + 262)
  | 0, k, x, _, _, _, h => absurd h (by omega)
  | n + 1, k, x, hx, hk0, hk, hn => by
    rw [Mod_layPacked_L183]
    have k1 : (1 : Int32).toInt = 1 := by decide
    have em : Mod_most x = some (mo x) := rfl
    refine So.bde em ?_
    refine So.ite (fun c => ?_) (fun c => ?_)
    · exact t_pack_j202 hf h1 h2 h3 (by omega) (by omega) I hm
    · rw [i64_lt] at c
      have e1 := i_add (a := x) (b := 1) (by omega) (by omega)
      have hlt : k < 32 := by
        have : k ≠ 32 := fun e => by
          have em2 := mo_nat hx (by omega)
          rw [e] at em2
          have a3 : (2 : Int) ^ 32 = 4294967296 := by decide
          rw [em2, a3] at c
          omega
        omega
      exact t_pack_L183 hf h1 h2 h3 I hm hd n (k + 1) (x + 1) (by omega) (by omega) (by omega) (by omega)
theorem t_pack_j136 {fu : Nat} {va : Nat → Int64} {ki wd : Nat → Int32} {ba : Nat → Int64} {x1 x2 : Int32} {x3 x5 : Int64} {x7 : Int32} {s : S_Mo} {bi : Nat → Int32} (hf : 12000 ≤ fu) (Aw : A_Mwidth wd) (h1 : 0 ≤ x1.toInt) (h2 : x1.toInt < 100) (h3 : x2.toInt ≤ 8) (I : I_Mo s) (hm : (Mo_many s).toInt + 294 ≤ 40000) (hl : 0 ≤ x3.toInt) (hl2 : x3.toInt ≤ 4294967295) (hg : 0 ≤ x5.toInt) (hg2 : x5.toInt ≤ 4294967294) : So (Mod_layPacked_j136 fu va ki wd ba x1 x2 x3 x5 x7 s bi) (fun r => KL r.1 s ∧ (Mo_many r.1).toInt ≤ (Mo_many s).toInt + 294) := by
  unfold Mod_layPacked_j136
  have hw := A_Mwidth_at Aw x1.toNatClampNeg
  have ed := i64_sub (a := x5) (b := x3) (by omega) (by omega)
  refine So.gd (i_in.mpr (by omega)) ?_
  refine So.bd (c_lay hf I hw.1 (by omega) (by omega)) fun q hq => ?_
  have done : ∀ r : S_Mo × (Nat → Int32), KL r.1 q.1 ∧ (Mo_many r.1).toInt ≤ (Mo_many q.1).toInt + 262 → KL r.1 s ∧ (Mo_many r.1).toInt ≤ (Mo_many s).toInt + 294 := fun r hr => ⟨hr.1.trans hq.1, by omega⟩
  have a168 : So (Mod_layPacked_j168 fu va ki wd ba x1 x2 x3 x5 0 q.1 q.2) (fun r => KL r.1 s ∧ (Mo_many r.1).toInt ≤ (Mo_many s).toInt + 294) := by
    unfold Mod_layPacked_j168 Mod_layPacked_j173
    refine So.neg (by decide) ?_
    exact So.imp (t_pack_j202 hf h1 h2 h3 (by decide) (by decide) hq.1.1 (by omega)) done
  have a172 : So (Mod_layPacked_j172 fu va ki wd ba x1 x2 x3 x5 0 q.1 q.2) (fun r => KL r.1 s ∧ (Mo_many r.1).toInt ≤ (Mo_many s).toInt + 294) := by
    unfold Mod_layPacked_j172 Mod_layPacked_j173
    refine So.pos (by decide) ?_
    exact So.imp (t_pack_L183 hf h1 h2 h3 hq.1.1 (by omega) (by omega) fu 1 1 (by decide) (by omega) (by omega) (by omega)) done
  exact So.ite (fun _ => a168) (fun _ => So.ite (fun _ => So.ite (fun _ => a168) (fun _ => a172)) (fun _ => a172))
theorem t_pack_L19 {fu : Nat} {va : Nat → Int64} {ki wd : Nat → Int32} {ba : Nat → Int64} {x1 x2 : Int32} {s : S_Mo} {bi : Nat → Int32} (hf : 12000 ≤ fu) (Aw : A_Mwidth wd) (h1 : 0 ≤ x1.toInt) (h2 : x1.toInt < 100) (h3 : x2.toInt ≤ 8) (I : I_Mo s) (hm : (Mo_many s).toInt + 294 ≤ 40000) (V : ∀ j : Nat, (j : Int) < x2.toInt → VC1 (va (100 * j + x1.toNatClampNeg)) (ki x1.toNatClampNeg) (wd x1.toNatClampNeg) (ba x1.toNatClampNeg)) : ∀ (n k : Nat) (x3 x5 : Int64) (x7 x8 : Int32), x8.toInt = (k : Int) → k ≤ 8 → 8 - k < n → 0 ≤ x3.toInt → x3.toInt ≤ 4294967295 → 0 ≤ x5.toInt → x5.toInt ≤ 4294967294 → So (Mod_layPacked_L19 fu va ki wd ba x1 x2 s bi (fun y3 y5 y7 => Mod_layPacked_j136 fu va ki wd ba x1 x2 y3 y5 y7 s bi) n x3 x5 x7 x8) (fun r => KL r.1 s ∧ (Mo_many r.1).toInt ≤ (Mo_many s).toInt + 294)
  | 0, k, x3, x5, x7, x8, _, _, h, _, _, _, _ => absurd h (by omega)
  | n + 1, k, x3, x5, x7, x8, hx, hk, hn, hl, hl2, hg, hg2 => by
    rw [Mod_layPacked_L19]
    have k1 : (1 : Int32).toInt = 1 := by decide
    have k100 : (100 : Int32).toInt = 100 := by decide
    refine So.ite (fun c => ?_) (fun c => ?_)
    · exact t_pack_j136 hf Aw h1 h2 h3 I hm hl hl2 hg hg2
    · rw [i_le] at c
      have e1 := i_add (a := x8) (b := 1) (by omega) (by omega)
      have m1 := i_mull 100 x8 100 (by decide) (by omega) (by omega)
      have m2 := i_add (a := 100 * x8) (b := x1) (by omega) (by omega)
      have hn1 := i_nat h1
      have ix : (100 * x8 + x1).toNatClampNeg = 100 * k + x1.toNatClampNeg := by
        have := i_nat (a := 100 * x8 + x1) (by omega)
        omega
      refine So.gd (i_in.mpr (by omega)) (So.lt ?_)
      rw [ix]
      have hv := vc_raw (A_Mwidth_at Aw x1.toNatClampNeg).1 (A_Mwidth_at Aw x1.toNatClampNeg).2 (V k (by omega))
      generalize va (100 * k + x1.toNatClampNeg) = v at hv
      have g1 : o_in x1 101 = true := i_in.mpr (by omega)
      -- the next turn
      have j128 : ∀ (y3 y5 : Int64) (y7 : Int32), 0 ≤ y3.toInt → y3.toInt ≤ 4294967295 → 0 ≤ y5.toInt → y5.toInt ≤ 4294967294 → So (Mod_layPacked_L19 fu va ki wd ba x1 x2 s bi (fun y3 y5 y7 => Mod_layPacked_j136 fu va ki wd ba x1 x2 y3 y5 y7 s bi) n y3 y5 y7 (x8 + 1)) (fun r => KL r.1 s ∧ (Mo_many r.1).toInt ≤ (Mo_many s).toInt + 294) := fun y3 y5 y7 a b c d => t_pack_L19 hf Aw h1 h2 h3 I hm V n (k + 1) y3 y5 y7 (x8 + 1) (by omega) (by omega) (by omega) a b c d
      have j86 : ∀ (q : Int64) (x13 t0 t1 : Int32), (x13 = 0 → 0 ≤ q.toInt ∧ q.toInt ≤ 4294967294) → So (Mod_layPacked_j86 fu va ki wd ba (fun v0 v1 v2 v3 => Mod_layPacked_L19 fu va ki wd ba x1 x2 s bi (fun y3 y5 y7 => Mod_layPacked_j136 fu va ki wd ba x1 x2 y3 y5 y7 s bi) n v0 v1 v2 v3) (fun y3 y5 y7 => Mod_layPacked_j136 fu va ki wd ba x1 x2 y3 y5 y7 s bi) x1 x2 s bi x3 x5 x8 q x13 t0 t1) (fun r => KL r.1 s ∧ (Mo_many r.1).toInt ≤ (Mo_many s).toInt + 294) := by
        intro q x13 t0 t1 hq
        unfold Mod_layPacked_j86 Mod_layPacked_j106 Mod_layPacked_j107 Mod_layPacked_j126 Mod_layPacked_j128
        refine So.ite (fun c1 => ?_) (fun c1 => ?_)
        · have hq := hq c1
          refine So.ite (fun c2 => ?_) (fun c2 => ?_)
          · refine So.ite (fun _ => So.ite (fun _ => ?_) (fun _ => ?_)) (fun _ => ?_)
            · exact j128 _ _ _ hl hl2 hg hg2
            · exact j128 _ _ _ hl hl2 hq.1 hq.2
            · exact j128 _ _ _ hl hl2 hg hg2
          · refine So.ite (fun _ => So.ite (fun _ => ?_) (fun _ => ?_)) (fun _ => ?_)
            · exact j128 _ _ _ hq.1 (by omega) hg hg2
            · exact j128 _ _ _ hq.1 (by omega) hq.1 hq.2
            · exact j128 _ _ _ hq.1 (by omega) hg hg2
        · refine So.ite (fun c2 => absurd c2 c1) (fun _ => ?_)
          exact j128 _ _ _ hl hl2 hg hg2
      have j72 : ∀ (q : Int64) (t0 : Int32), (t0 = 0 → 0 ≤ q.toInt ∧ q.toInt ≤ 4294967294) → So (Mod_layPacked_j72 fu va ki wd ba (fun v0 v1 v2 v3 => Mod_layPacked_L19 fu va ki wd ba x1 x2 s bi (fun y3 y5 y7 => Mod_layPacked_j136 fu va ki wd ba x1 x2 y3 y5 y7 s bi) n v0 v1 v2 v3) (fun y3 y5 y7 => Mod_layPacked_j136 fu va ki wd ba x1 x2 y3 y5 y7 s bi) x1 x2 s bi x3 x5 x7 x8 q t0) (fun r => KL r.1 s ∧ (Mo_many r.1).toInt ≤ (Mo_many s).toInt + 294) := by
        intro q t0 hq
        unfold Mod_layPacked_j72
        exact So.ite (fun _ => j86 _ _ _ _ hq) (fun _ => j86 _ _ _ _ hq)
      have hraw : So (Mod_raw s ki wd ba x1 v) (fun q => (ki x1.toNatClampNeg = 3 → q = v) ∧ (ki x1.toNatClampNeg ≠ 3 → v ≠ (-9000000000000000000) → q = v - ba x1.toNatClampNeg)) := by
        unfold Mod_raw
        refine So.gd g1 (So.ite (fun c1 => So.one ⟨fun _ => rfl, fun h => absurd c1 h⟩) (fun c1 => So.ite (fun c2 => So.gd g1 (So.bd t_Mod_most fun _ _ => So.one ⟨fun h => absurd h c1, fun _ h => absurd c2 h⟩)) (fun c2 => So.gd g1 (So.one ⟨fun h => absurd h c1, fun _ _ => rfl⟩))))
      refine So.bd hraw fun q hq => ?_
      unfold Mod_layPacked_j71
      refine So.ite (fun c1 => So.gd g1 (So.ite (fun c2 => ?_) (fun c2 => ?_))) (fun c1 => ?_)
      · refine j72 q 0 (fun _ => ?_)
        rw [hq.1 c2]
        rcases hv with h | h | h
        · omega
        · exact absurd c2 h.1
        · exact absurd c2 h.1
      · exact j72 q 1 (fun e => absurd e (by decide))
      · refine j72 q 0 (fun _ => ?_)
        rcases hv with h | h | h
        · rw [hq.1 h.1]
          omega
        · exact absurd h.2 c1
        · rw [hq.2 h.1 h.2.1]
          exact h.2.2
theorem t_layPacked {fu : Nat} {va : Nat → Int64} {ki wd : Nat → Int32} {ba : Nat → Int64} {a0 a1 : Int32} {s : S_Mo} {bi : Nat → Int32} (hf : 12000 ≤ fu) (Aw : A_Mwidth wd) (h1 : 0 ≤ a0.toInt) (h2 : a0.toInt < 100) (h3 : a1.toInt ≤ 8) (I : I_Mo s) (hm : (Mo_many s).toInt + 294 ≤ 40000) (V : ∀ j : Nat, (j : Int) < a1.toInt → VC1 (va (100 * j + a0.toNatClampNeg)) (ki a0.toNatClampNeg) (wd a0.toNatClampNeg) (ba a0.toNatClampNeg)) : So (Mod_layPacked fu va ki wd ba a0 a1 s bi) (fun r => KL r.1 s ∧ (Mo_many r.1).toInt ≤ (Mo_many s).toInt + 294) := by
  unfold Mod_layPacked
  have em : Mod_most (wd a0.toNatClampNeg) = some (mo (wd a0.toNatClampNeg)) := rfl
  have hr := mo_r (A_Mwidth_at Aw a0.toNatClampNeg).1 (A_Mwidth_at Aw a0.toNatClampNeg).2
  refine So.gd (i_in.mpr (by omega)) (So.bde em ?_)
  exact t_pack_L19 hf Aw h1 h2 h3 I hm V fu 0 _ 0 0 0 rfl (by omega) (by omega) hr.1 hr.2 (by decide) (by decide)
