-- common rows
theorem So.bdq {α β : Type} {x : Option α} {f : α → Option β} {Q : α → Prop} {P : β → Prop} (h : So x Q) (hf : ∀ q, x = some q → Q q → So (f q) P) : So (o_bd x f) P := by
  obtain ⟨r, e, hr⟩ := h
  rw [e]
  exact hf r e hr
theorem So.and {α : Type} {x : Option α} {P Q : α → Prop} (h : So x P) (g : So x Q) : So x (fun r => P r ∧ Q r) := by
  obtain ⟨r, e, hr⟩ := h
  obtain ⟨r', e', hr'⟩ := g
  rw [e] at e'
  cases e'
  exact ⟨r, e, hr, hr'⟩
theorem gd_t {α : Type} {b : Bool} {k : Option α} (h : b = true) : o_gd b k = k := if_pos h
theorem bd_s {α β : Type} {x : Option α} {a : α} {f : α → Option β} (e : x = some a) : o_bd x f = f a := by
  rw [e]
  rfl

-- p17: the tape is as long on both sides
def RP (t : S_Bits) (s : S_Mo) : Prop := (Bits_length t).toInt = 8 * (Mo_taped s).toInt
theorem RP.keep {t : S_Bits} {s s' : S_Mo} (R : RP t s) (h : (Mo_taped s').toInt = (Mo_taped s).toInt) : RP t s' := by
  unfold RP at *
  rw [h]
  exact R
theorem rp_zero {t : S_Bits} {s : S_Mo} (h : (Bits_length t).toInt = 0) (h' : (Mo_taped s).toInt = 0) : RP t s := by
  unfold RP
  rw [h, h']
  rfl
theorem rp_init {t : S_Bits} {s : S_Mo} (h : Bits_length t = 0) (h' : Mo_taped s = 0) : RP t s := rp_zero (by rw [h]; decide) (by rw [h']; decide)
theorem z_le {x : Int} (h : x = 0) : x ≤ 8000 := by omega
theorem yz_add_L {fu nBt : Nat} {v : Int64} (hb : (nBt : Int) ≤ 3679) : ∀ (n k : Nat) (x : Int32) (b : S_Bits), x.toInt = (k : Int) - 1 → k < n → k ≤ 120 → 0 ≤ (Bits_length b).toInt → (Bits_length b).toInt + (k : Int) ≤ 8 * (nBt : Int) → So (Bits_add_L5 fu nBt v n x b) (fun r => (Bits_length r).toInt = (Bits_length b).toInt + (k : Int))
  | 0, k, x, b, _, h, _, _, _ => absurd h (by omega)
  | n + 1, 0, x, b, hx, _, _, h0, hl => by
    rw [Bits_add_L5]
    have k0 : (0 : Int32).toInt = 0 := by decide
    refine So.ite (fun _ => So.one (by omega)) (fun c => ?_)
    rw [i_lt] at c
    omega
  | n + 1, k + 1, x, b, hx, hn, hk, h0, hl => by
    rw [Bits_add_L5]
    have k0 : (0 : Int32).toInt = 0 := by decide
    have k1 : (1 : Int32).toInt = 1 := by decide
    have km : ((-1) : Int32).toInt = -1 := by decide
    have ed := i_divk (Bits_length b) 8 8 (by decide) (by decide) h0
    have en := i_of (n := nBt) (by omega)
    have e2 : (x + (-1)).toInt = (k : Int) - 1 := by
      rw [i_add (a := x) (b := (-1)) (by omega) (by omega), km, hx]
      omega
    have e1 : (Bits_length b + 1).toInt = (Bits_length b).toInt + 1 := by
      clear e2
      rw [i_add (a := Bits_length b) (b := 1) (by omega) (by omega), k1]
    refine So.ite (fun c => ?_) (fun c => ?_)
    · clear e1 e2
      rw [i_lt] at c
      omega
    refine So.ite (fun c2 => ?_) (fun c2 => ?_)
    · clear e1 e2
      rw [i_le, en, ed] at c2
      omega
    have go : ∀ b' : S_Bits, Bits_length b' = Bits_length b → So (Bits_add_j62 fu nBt (fun v0 v1 => Bits_add_L5 fu nBt v n v0 v1) v x b') (fun r => (Bits_length r).toInt = (Bits_length b).toInt + ((k + 1 : Nat) : Int)) := by
      intro b' eb
      unfold Bits_add_j62
      refine So.lt ?_
      have f1 : (Bits_length (Bits_set_length b' (Bits_length b' + 1))).toInt = (Bits_length b).toInt + 1 := by
        show (Bits_length b' + 1).toInt = _
        rw [eb]
        exact e1
      refine So.imp (yz_add_L hb n k (x + (-1)) (Bits_set_length b' (Bits_length b' + 1)) e2 (by clear e1 e2 f1; omega) (by clear e1 e2 f1; omega) ?_ ?_) fun r hr => ?_
      · rw [f1]
        clear e1 e2 f1
        omega
      · rw [f1]
        clear e1 e2 f1
        omega
      · rw [hr, f1]
        clear e1 e2 f1 hr
        omega
    have gi : o_in (Bits_length b / 8) nBt = true := by
      clear e1 e2
      rw [i_le, en, ed] at c2
      exact i_in.mpr (by rw [ed]; omega)
    refine So.ite (fun _ => go b rfl) (fun _ => ?_)
    exact So.gd gi (So.gd gi (So.lt (go _ rfl)))
def FC (t a : Int) : Prop := 1 ≤ a ∧ a ≤ 4 ∧ t + a ≤ 1000
theorem yz_X_feed {fu : Nat} {sX : S_X} {a0 a1 : Int32} {tp : S_Bits} {T : Int} (hf : 12000 ≤ fu) (I : I_Bits tp) (h8 : (Bits_length tp).toInt = 8 * T) (hT0 : 0 ≤ T) (hT1 : T ≤ 1000) : So (X_feed fu sX a0 a1 tp) (fun r => (r.1.toInt = -1 ∧ ¬ FC T a1.toInt ∧ (Bits_length r.2).toInt = 8 * T) ∨ (FC T a1.toInt ∧ r.1.toInt = T + a1.toInt ∧ (Bits_length r.2).toInt = 8 * (T + a1.toInt))) := by
  unfold X_feed FC
  have k1 : (1 : Int32).toInt = 1 := by decide
  have k4 : (4 : Int32).toInt = 4 := by decide
  have kt : (1000 : Int32).toInt = 1000 := by decide
  have km : ((-1) : Int32).toInt = -1 := by decide
  refine So.ite (fun c => ?_) (fun c => ?_) <;> rw [i_lt] at c
  · exact So.one (Or.inl ⟨km, by omega, h8⟩)
  refine So.ite (fun c2 => ?_) (fun c2 => ?_) <;> rw [i_lt] at c2
  · exact So.one (Or.inl ⟨km, by omega, h8⟩)
  refine So.bd (t_Bits_byteCount (nBt := 1000) I (by decide) (by omega)) fun q1 h1 => ?_
  have hq : q1.toInt = T := by omega
  have s1 := i_add (a := q1) (b := a1) (by omega) (by omega)
  refine So.ite (fun c3 => ?_) (fun c3 => ?_) <;> rw [i_le, s1] at c3
  · have m8 := i_mull 8 a1 8 (by decide) (by omega) (by omega)
    have sm := i_sub (a := 8 * a1) (b := 1) (by omega) (by omega)
    obtain ⟨k, hk⟩ : ∃ k : Nat, 8 * a1.toInt = (k : Int) := ⟨(8 * a1.toInt).toNat, by omega⟩
    have hx : (8 * a1 - 1).toInt = (k : Int) - 1 := by rw [sm, m8, hk, k1]
    have B : So (Bits_add fu 1000 a0.toInt64 (8 * a1) tp) (fun r => (I_Bits r ∧ (Bits_length r).toInt ≤ 8 * ((1000 : Nat) : Int)) ∧ (Bits_length r).toInt = (Bits_length tp).toInt + (k : Int)) := So.and (t_Bits_add hf I (by decide) (by clear sm hx; omega) (by clear sm hx; omega) (by clear sm hx; omega)) (by
      unfold Bits_add
      exact yz_add_L (by decide) fu k (8 * a1 - 1) tp hx (by clear sm hx; omega) (by clear sm hx; omega) (by clear sm hx; omega) (by clear sm hx; omega))
    refine So.bd B fun q2 h2 => ?_
    clear sm hx
    obtain ⟨⟨I2, h2a⟩, h2b⟩ := h2
    refine So.bd (t_Bits_byteCount (nBt := 1000) I2 (by decide) h2a) fun q3 h3 => ?_
    exact So.one (Or.inr ⟨by omega, by show q3.toInt = _; omega, by show (Bits_length q2).toInt = _; omega⟩)
  · exact So.one (Or.inl ⟨km, by omega, h8⟩)
theorem yz_feed_L {fu : Nat} {v : Int32} : ∀ (n k : Nat) (x : Int32) (s : S_Mo) (tp : Nat → Int32), x.toInt = (k : Int) - 1 → k < n → k ≤ 4 → 0 ≤ (Mo_taped s).toInt → (Mo_taped s).toInt + (k : Int) ≤ 1000 → So (Mod_feed_L33 fu v n x s tp) (fun r => r.1.toInt = (Mo_taped s).toInt + (k : Int) ∧ (Mo_taped r.2.1).toInt = (Mo_taped s).toInt + (k : Int))
  | 0, k, x, s, tp, _, h, _, _, _ => absurd h (by omega)
  | n + 1, 0, x, s, tp, hx, _, _, h0, hl => by
    rw [Mod_feed_L33]
    have k0 : (0 : Int32).toInt = 0 := by decide
    refine So.ite (fun _ => So.one ⟨?_, ?_⟩) (fun c => ?_)
    · show (Mo_taped s).toInt = _
      omega
    · show (Mo_taped s).toInt = _
      omega
    · rw [i_lt] at c
      omega
  | n + 1, k + 1, x, s, tp, hx, hn, hk, h0, hl => by
    rw [Mod_feed_L33]
    have k0 : (0 : Int32).toInt = 0 := by decide
    have k1 : (1 : Int32).toInt = 1 := by decide
    have km : ((-1) : Int32).toInt = -1 := by decide
    have e2 : (x + (-1)).toInt = (k : Int) - 1 := by
      rw [i_add (a := x) (b := (-1)) (by omega) (by omega), km, hx]
      omega
    have e1 : (Mo_taped s + 1).toInt = (Mo_taped s).toInt + 1 := by
      clear e2
      rw [i_add (a := Mo_taped s) (b := 1) (by omega) (by omega), k1]
    refine So.ite (fun c => ?_) (fun c => ?_)
    · clear e1 e2
      rw [i_lt] at c
      omega
    refine So.gd (i_in.mpr (by clear e1 e2; omega)) (So.lt (So.lt ?_))
    have f1 : (Mo_taped (Mo_set_taped s (Mo_taped s + 1))).toInt = (Mo_taped s).toInt + 1 := e1
    refine So.imp (yz_feed_L n k (x + (-1)) (Mo_set_taped s (Mo_taped s + 1)) _ e2 (by clear e1 e2 f1; omega) (by clear e1 e2 f1; omega) ?_ ?_) fun r hr => ?_
    · rw [f1]
      clear e1 e2 f1
      omega
    · rw [f1]
      clear e1 e2 f1
      omega
    · rw [f1] at hr
      clear e1 e2 f1
      omega
theorem yz_Mod_feed {fu : Nat} {a0 a1 : Int32} {s : S_Mo} {tp : Nat → Int32} {T : Int} (hf : 12000 ≤ fu) (hT : (Mo_taped s).toInt = T) (hT0 : 0 ≤ T) (hT1 : T ≤ 1000) : So (Mod_feed fu a0 a1 s tp) (fun r => (r.1.toInt = -1 ∧ ¬ FC T a1.toInt ∧ (Mo_taped r.2.1).toInt = T) ∨ (FC T a1.toInt ∧ r.1.toInt = T + a1.toInt ∧ (Mo_taped r.2.1).toInt = T + a1.toInt)) := by
  unfold Mod_feed FC
  have k1 : (1 : Int32).toInt = 1 := by decide
  have k4 : (4 : Int32).toInt = 4 := by decide
  have kt : (1000 : Int32).toInt = 1000 := by decide
  have km : ((-1) : Int32).toInt = -1 := by decide
  refine So.lt ?_
  refine So.ite (fun c => ?_) (fun c => ?_) <;> rw [i_lt] at c
  · exact So.one (Or.inl ⟨km, by omega, hT⟩)
  refine So.ite (fun c2 => ?_) (fun c2 => ?_) <;> rw [i_lt] at c2
  · exact So.one (Or.inl ⟨km, by omega, hT⟩)
  have s1 : (Mo_taped (Mo_set_thrown s 0) + a1).toInt = T + a1.toInt := by
    show (Mo_taped s + a1).toInt = _
    rw [i_add (a := Mo_taped s) (b := a1) (by omega) (by omega), hT]
  refine So.ite (fun c3 => ?_) (fun c3 => ?_) <;> rw [i_le, s1] at c3
  · clear s1
    obtain ⟨k, hk⟩ : ∃ k : Nat, a1.toInt = (k : Int) := ⟨a1.toInt.toNat, by omega⟩
    have sm := i_sub (a := a1) (b := 1) (by omega) (by omega)
    have hx : (a1 - 1).toInt = (k : Int) - 1 := by rw [sm, hk, k1]
    clear sm
    refine So.imp (yz_feed_L fu k (a1 - 1) (Mo_set_thrown s 0) tp hx (by clear hx; omega) (by clear hx; omega) (by clear hx; show 0 ≤ (Mo_taped s).toInt; omega) (by clear hx; show (Mo_taped s).toInt + (k : Int) ≤ 1000; omega)) fun r hr => ?_
    clear hx
    have h1 : r.1.toInt = (Mo_taped s).toInt + (k : Int) := hr.1
    have h2 : (Mo_taped r.2.1).toInt = (Mo_taped s).toInt + (k : Int) := hr.2
    exact Or.inr ⟨by omega, by omega, by omega⟩
  · exact So.one (Or.inl ⟨km, by omega, hT⟩)
theorem t_La_c15 {fu L : Nat} {xs : Nat → Int32} {sX : S_X} {x4 : Int32} {t : S_Bits} {s : S_Mo} {tp : Nat → Int32} (hf : 45000 ≤ fu) (I : I_Bits t) (Im : I_Mo s) (It : A_Mtape tp) (h0 : 0 ≤ x4.toInt) (h1 : x4.toInt + 5 < (L : Int)) (h2 : (L : Int) ≤ 3072) (h3 : (Bits_length t).toInt ≤ 8000) (R : RP t s) : So (La_c15 fu xs L sX x4 t s tp) (fun r => I_Bits r.1 ∧ I_Mo r.2.1 ∧ A_Mtape r.2.2 ∧ (Bits_length r.1).toInt ≤ 8000 ∧ RP r.1 r.2.1) := by
  unfold La_c15
  have k1 : (1 : Int32).toInt = 1 := by decide
  have k2 : (2 : Int32).toInt = 2 := by decide
  have e1 := i_add (a := x4) (b := 1) (by omega) (by omega)
  have e2 := i_add (a := x4) (b := 2) (by omega) (by omega)
  have g1 : o_in (x4 + 1) L = true := i_in.mpr (by omega)
  have g2 : o_in (x4 + 2) L = true := i_in.mpr (by omega)
  have hT := I_Mo_taped Im
  unfold RP at R
  obtain ⟨q, eq, ⟨hq1, hq2⟩, hq3⟩ := So.and (t_X_feed (fu := fu) (sX := sX) (a0 := xs (x4 + 1).toNatClampNeg) (a1 := xs (x4 + 2).toNatClampNeg) (by omega) I h3) (yz_X_feed (fu := fu) (sX := sX) (a0 := xs (x4 + 1).toNatClampNeg) (a1 := xs (x4 + 2).toNatClampNeg) (by omega) I R (by omega) (by omega))
  obtain ⟨p, ep, ⟨hp1, hp2⟩, hp3⟩ := So.and (t_Mod_feed (fu := fu) (a0 := xs (x4 + 1).toNatClampNeg) (a1 := xs (x4 + 2).toNatClampNeg) (by omega) Im It) (yz_Mod_feed (fu := fu) (a0 := xs (x4 + 1).toNatClampNeg) (a1 := xs (x4 + 2).toNatClampNeg) (tp := tp) (by omega) rfl (by omega) (by omega))
  refine So.gd g1 (So.gd g2 (So.bde eq (So.gd g1 (So.gd g2 (So.bde ep ?_)))))
  have hv : q.1 = p.1 ∧ (Bits_length q.2).toInt = 8 * (Mo_taped p.2.1).toInt := by
    rcases hq3 with ⟨a, b, c⟩ | ⟨a, b, c⟩
    · rcases hp3 with ⟨a', b', c'⟩ | ⟨a', b', c'⟩
      · exact ⟨i_eq.mpr (a.trans a'.symm), by rw [c, c']⟩
      · exact absurd a' b
    · rcases hp3 with ⟨a', b', c'⟩ | ⟨a', b', c'⟩
      · exact absurd a b'
      · exact ⟨i_eq.mpr (b.trans b'.symm), by rw [c, c']⟩
  refine So.pos hv.1 ?_
  exact So.one ⟨hq1, hp1, hp2, hq2, hv.2⟩
