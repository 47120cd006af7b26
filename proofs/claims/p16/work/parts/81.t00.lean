-- 'it answers, and P holds of the answer'
def So {α : Type} (x : Option α) (P : α → Prop) : Prop := ∃ r, x = some r ∧ P r
theorem So.one {α : Type} {r : α} {P : α → Prop} (h : P r) : So (some r) P := ⟨r, rfl, h⟩
theorem So.gd {α : Type} {b : Bool} {k : Option α} {P : α → Prop} (h : b = true) (hk : So k P) : So (o_gd b k) P := by
  unfold o_gd
  rw [if_pos h]
  exact hk
theorem So.lt {α β : Type} {x : α} {f : α → Option β} {P : β → Prop} (h : So (f x) P) : So (o_lt x f) P := h
theorem So.bd {α β : Type} {x : Option α} {f : α → Option β} {Q : α → Prop} {P : β → Prop} (h : So x Q) (hf : ∀ q, Q q → So (f q) P) : So (o_bd x f) P := by
  obtain ⟨r, rfl, hr⟩ := h
  exact hf r hr
theorem So.ite {α : Type} {c : Prop} [Decidable c] {a b : Option α} {P : α → Prop} (h1 : c → So a P) (h2 : ¬ c → So b P) : So (if c then a else b) P := by
  by_cases h : c
  · rw [if_pos h]
    exact h1 h
  · rw [if_neg h]
    exact h2 h
theorem So.imp {α : Type} {x : Option α} {P Q : α → Prop} (h : So x P) (hi : ∀ r, P r → Q r) : So x Q := by
  obtain ⟨r, e, hr⟩ := h
  exact ⟨r, e, hi r hr⟩
-- numbers
theorem i_in {a : Int32} {n : Nat} : o_in a n = true ↔ 0 ≤ a.toInt ∧ a.toInt < n := by
  have e0 : (0 : Int32).toInt = 0 := by decide
  unfold o_in
  simp only [Bool.not_eq_true', Bool.or_eq_false_iff, decide_eq_false_iff_not, Int32.lt_iff_toInt_lt, e0]
  show (¬ a.toInt < 0 ∧ ¬ n ≤ a.toInt.toNat) ↔ _
  omega
theorem i_lt {a b : Int32} : a < b ↔ a.toInt < b.toInt := Int32.lt_iff_toInt_lt
theorem i_le {a b : Int32} : a ≤ b ↔ a.toInt ≤ b.toInt := Int32.le_iff_toInt_le
theorem i_eq {a b : Int32} : a = b ↔ a.toInt = b.toInt := Int32.toInt_inj.symm
theorem i_nat {a : Int32} (h : 0 ≤ a.toInt) : (a.toNatClampNeg : Int) = a.toInt := by
  show ((a.toInt.toNat : Nat) : Int) = _
  omega
theorem i_bm {x : Int} (h1 : -2147483648 ≤ x) (h2 : x < 2147483648) : x.bmod (2 ^ 32) = x := by
  unfold Int.bmod
  have e : ((2 ^ 32 : Nat) : Int) = 4294967296 := by decide
  rw [e]
  dsimp only
  split <;> omega
theorem i_add {a b : Int32} (h1 : -2147483648 ≤ a.toInt + b.toInt) (h2 : a.toInt + b.toInt < 2147483648) : (a + b).toInt = a.toInt + b.toInt := by
  rw [Int32.toInt_add]
  exact i_bm h1 h2
theorem i_sub {a b : Int32} (h1 : -2147483648 ≤ a.toInt - b.toInt) (h2 : a.toInt - b.toInt < 2147483648) : (a - b).toInt = a.toInt - b.toInt := by
  rw [Int32.toInt_sub]
  exact i_bm h1 h2
theorem i_mul {a b : Int32} (h1 : -2147483648 ≤ a.toInt * b.toInt) (h2 : a.toInt * b.toInt < 2147483648) : (a * b).toInt = a.toInt * b.toInt := by
  rw [Int32.toInt_mul]
  exact i_bm h1 h2
theorem i_of {n : Nat} (h : n < 2147483648) : (Int32.ofNat n).toInt = n := by
  exact Int32.toInt_ofNat_of_lt (by omega)
theorem i_r1 (a : Int32) : -2147483648 ≤ a.toInt := Int32.le_toInt a
theorem i_r2 (a : Int32) : a.toInt < 2147483648 := Int32.toInt_lt a
theorem i_div8 {a : Int32} (h : 0 ≤ a.toInt) : (a / 8).toInt = a.toInt / 8 := by
  have e8 : (8 : Int32).toInt = 8 := by decide
  rw [Int32.toInt_div, e8, Int.tdiv_eq_ediv_of_nonneg h]
  exact i_bm (by have := i_r2 a; omega) (by have := i_r2 a; omega)
theorem i_up {f : Nat → Int32} {k : Nat} {x : Int32} {P : Int32 → Prop} {n : Nat} (h : ∀ j, j < n → P (f j)) (hx : P x) : ∀ j, j < n → P (upd f k x j) := fun j hj => by
  unfold upd
  by_cases e : j = k
  · rw [if_pos e]
    exact hx
  · rw [if_neg e]
    exact h j hj
theorem cE_r : ∀ j : Nat, (j = 0 ∧ (cE j).toInt = 400) ∨ (j = 1 ∧ (cE j).toInt = 440) ∨ (j = 2 ∧ (cE j).toInt = 460) ∨ (3 ≤ j ∧ (cE j).toInt = 480)
  | 0 => Or.inl ⟨rfl, by decide⟩
  | 1 => Or.inr (Or.inl ⟨rfl, by decide⟩)
  | 2 => Or.inr (Or.inr (Or.inl ⟨rfl, by decide⟩))
  | j + 3 => Or.inr (Or.inr (Or.inr ⟨by omega, by show (480 : Int32).toInt = 480; decide⟩))
theorem cL_r : ∀ j : Nat, (j = 0 ∧ (cL j).toInt = 431) ∨ (j = 1 ∧ (cL j).toInt = 455) ∨ (j = 2 ∧ (cL j).toInt = 468) ∨ (3 ≤ j ∧ (cL j).toInt = 487)
  | 0 => Or.inl ⟨rfl, by decide⟩
  | 1 => Or.inr (Or.inl ⟨rfl, by decide⟩)
  | 2 => Or.inr (Or.inr (Or.inl ⟨rfl, by decide⟩))
  | j + 3 => Or.inr (Or.inr (Or.inr ⟨by omega, by show (487 : Int32).toInt = 487; decide⟩))
theorem So.lt2 {α β : Type} {x : α} {f : α → Option β} {P : β → Prop} (h : ∀ y, y = x → So (f y) P) : So (o_lt x f) P := h x rfl
theorem So.pos {α : Type} {c : Prop} [Decidable c] {a b : Option α} {P : α → Prop} (h : c) (ha : So a P) : So (if c then a else b) P := by rw [if_pos h]; exact ha
theorem So.neg {α : Type} {c : Prop} [Decidable c] {a b : Option α} {P : α → Prop} (h : ¬ c) (hb : So b P) : So (if c then a else b) P := by rw [if_neg h]; exact hb
def AR (lo hi : Int) (f : Nat → Int32) : Prop := ∀ j : Nat, lo ≤ (f j).toInt ∧ (f j).toInt ≤ hi
theorem i_ar {f : Nat → Int32} {k : Nat} {x : Int32} {lo hi : Int} (h : ∀ j : Nat, lo ≤ (f j).toInt ∧ (f j).toInt ≤ hi) (h0 : lo ≤ x.toInt) (h1 : x.toInt ≤ hi) : ∀ j : Nat, lo ≤ (upd f k x j).toInt ∧ (upd f k x j).toInt ≤ hi := fun j => by
  unfold upd
  by_cases e : j = k
  · rw [if_pos e]
    exact ⟨h0, h1⟩
  · rw [if_neg e]
    exact h j
theorem i_arp {f : Nat → Int32} {k : Nat} {x : Int32} {P : Nat → Int32 → Prop} (h : ∀ j : Nat, P j (f j)) (h0 : P k x) : ∀ j : Nat, P j (upd f k x j) := fun j => by
  unfold upd
  by_cases e : j = k
  · rw [if_pos e, e]
    exact h0
  · rw [if_neg e]
    exact h j
theorem i_cp {sp dp n : Int32} {n0 n1 : Nat} (h1 : 0 ≤ sp.toInt) (h2 : 0 ≤ dp.toInt) (h3 : 0 ≤ n.toInt) (h4 : sp.toInt + n.toInt ≤ n0) (h5 : dp.toInt + n.toInt ≤ n1) : o_cp sp dp n n0 n1 = true := by
  have k : (0 : Int32).toInt = 0 := by decide
  have a1 := i_nat h1
  have a2 := i_nat h2
  have a3 := i_nat h3
  have b1 : ¬ sp < 0 := by rw [i_lt]; omega
  have b2 : ¬ dp < 0 := by rw [i_lt]; omega
  have b3 : ¬ n < 0 := by rw [i_lt]; omega
  have b4 : sp.toNatClampNeg + n.toNatClampNeg ≤ n0 := by omega
  have b5 : dp.toNatClampNeg + n.toNatClampNeg ≤ n1 := by omega
  unfold o_cp
  rw [decide_eq_true b1, decide_eq_true b2, decide_eq_true b3, decide_eq_true b4, decide_eq_true b5]
  rfl
theorem i_mulr (a b : Int32) (c : Int) (hb : b.toInt = c) (h1 : -2147483648 ≤ a.toInt * c) (h2 : a.toInt * c < 2147483648) : (a * b).toInt = a.toInt * c := by
  rw [← hb] at h1 h2 ⊢
  exact i_mul h1 h2
theorem i_mull (a b : Int32) (c : Int) (hb : a.toInt = c) (h1 : -2147483648 ≤ c * b.toInt) (h2 : c * b.toInt < 2147483648) : (a * b).toInt = c * b.toInt := by
  rw [← hb] at h1 h2 ⊢
  exact i_mul h1 h2
theorem i_natm (a : Int32) : 0 ≤ a.toInt → (a.toNatClampNeg : Int) = a.toInt := fun h => i_nat h
theorem i_divm (a c : Int32) (h : 0 ≤ a.toInt) (hc : 0 < c.toInt) : (a / c).toInt = a.toInt / c.toInt := by
  rw [Int32.toInt_div, Int.tdiv_eq_ediv_of_nonneg h]
  have h2 := i_r2 a
  have h3 : a.toInt / c.toInt ≤ a.toInt := Int.ediv_le_self _ h
  have h4 : 0 ≤ a.toInt / c.toInt := Int.ediv_nonneg h (by omega)
  exact i_bm (by omega) (by omega)
theorem i_divk (a c : Int32) (k : Int) (hk : c.toInt = k) (hc : 0 < k) (h : 0 ≤ a.toInt) : (a / c).toInt = a.toInt / k := by
  rw [← hk] at hc ⊢
  exact i_divm a c h hc
theorem i_diva (a c : Int32) (k : Int) (hk : c.toInt = k) (hc : 0 < k) : (0 ≤ a.toInt ∧ (a / c).toInt = a.toInt / k) ∨ (a.toInt < 0 ∧ (a / c).toInt = -((-a.toInt) / k)) := by
  by_cases h : 0 ≤ a.toInt
  · exact Or.inl ⟨h, i_divk a c k hk hc h⟩
  · refine Or.inr ⟨by omega, ?_⟩
    rw [Int32.toInt_div, hk]
    have e : a.toInt = -(-a.toInt) := by omega
    have h1 := i_r1 a
    have h3 : (-a.toInt) / k ≤ -a.toInt := Int.ediv_le_self _ (by omega)
    have h4 : 0 ≤ (-a.toInt) / k := Int.ediv_nonneg (by omega) (by omega)
    have e2 : a.toInt.tdiv k = -((-a.toInt) / k) := by
      rw [← Int.tdiv_eq_ediv_of_nonneg (by omega : 0 ≤ -a.toInt), Int.neg_tdiv, Int.neg_neg]
    rw [e2]
    exact i_bm (by omega) (by omega)
theorem i_bool {a : Int32} (h : a.toInt = 0 ∨ a.toInt = 1) : o_bool a = true := by
  rcases h with h | h
  · have e : a = 0 := Int32.toInt_inj.mp (by rw [h]; rfl)
    rw [e]
    decide
  · have e : a = 1 := Int32.toInt_inj.mp (by rw [h]; rfl)
    rw [e]
    decide
theorem i_andm (a b : Int32) (h : 0 ≤ b.toInt) : 0 ≤ (a &&& b).toInt ∧ (a &&& b).toInt ≤ b.toInt := by
  have hb : b.toBitVec.toInt = b.toBitVec.toNat := by
    rw [BitVec.toInt_eq_toNat_cond]
    have h2 : 0 ≤ b.toBitVec.toInt := h
    rw [BitVec.toInt_eq_toNat_cond] at h2
    split <;> omega
  have e : (a &&& b).toInt = (a.toBitVec &&& b.toBitVec).toInt := rfl
  have e2 : b.toInt = b.toBitVec.toInt := rfl
  have l : (a.toBitVec &&& b.toBitVec).toNat ≤ b.toBitVec.toNat := by
    rw [BitVec.toNat_and]
    exact Nat.and_le_right
  have hlt : b.toInt < 2147483648 := i_r2 b
  rw [e, e2, hb, BitVec.toInt_eq_toNat_cond]
  split <;> omega
theorem i64_lt {a b : Int64} : a < b ↔ a.toInt < b.toInt := Int64.lt_iff_toInt_lt
theorem i64_le {a b : Int64} : a ≤ b ↔ a.toInt ≤ b.toInt := Int64.le_iff_toInt_le
theorem i64_eq {a b : Int64} : a = b ↔ a.toInt = b.toInt := Int64.toInt_inj.symm
theorem i_nar (x : Int32) : 0 ≤ (vp_nar .boolean x).toInt ∧ (vp_nar .boolean x).toInt ≤ 1 := i_andm x 1 (by decide)
theorem i_64 (x : Int64) : x.toInt < -2147483648 ∨ 2147483647 < x.toInt ∨ x.toInt32.toInt = x.toInt := by
  by_cases h : -2147483648 ≤ x.toInt ∧ x.toInt < 2147483648
  · refine Or.inr (Or.inr ?_)
    rw [Int64.toInt_toInt32]
    exact i_bm h.1 h.2
  · omega
theorem i64_k : ∀ k : Fin 64, ((Int64.ofInt (k.val : Int) <<< ((1 : Int32).toInt64 &&& 63)) ||| (0 : Int32).toInt64).toInt = 2 * (k.val : Int) ∧ ((Int64.ofInt (k.val : Int) <<< ((1 : Int32).toInt64 &&& 63)) ||| (1 : Int32).toInt64).toInt = 2 * (k.val : Int) + 1 := by decide +kernel
theorem i64_or (x : Int64) (b : Int32) : x.toInt < 0 ∨ 63 < x.toInt ∨ b.toInt < 0 ∨ 1 < b.toInt ∨ ((x <<< ((1 : Int32).toInt64 &&& 63)) ||| b.toInt64).toInt = 2 * x.toInt + b.toInt := by
  by_cases h : (0 ≤ x.toInt ∧ x.toInt ≤ 63) ∧ 0 ≤ b.toInt ∧ b.toInt ≤ 1
  · obtain ⟨⟨h1, h2⟩, h3, h4⟩ := h
    refine Or.inr (Or.inr (Or.inr (Or.inr ?_)))
    obtain ⟨k, hk⟩ : ∃ k : Nat, x.toInt = k := ⟨x.toInt.toNat, by omega⟩
    have ex : x = Int64.ofInt k := by rw [← hk, Int64.ofInt_toInt]
    have hk2 : k < 64 := by omega
    have q := i64_k ⟨k, hk2⟩
    have hb : b.toInt = 0 ∨ b.toInt = 1 := by omega
    rw [hk]
    rcases hb with hb | hb
    · have e : b = 0 := Int32.toInt_inj.mp (by rw [hb]; rfl)
      rw [e, ex]
      exact q.1
    · have e : b = 1 := Int32.toInt_inj.mp (by rw [hb]; rfl)
      rw [e, ex]
      exact q.2
  · omega
theorem t_fillI_L {fu m : Nat} {v e : Int32} {P : Nat → Int32 → Prop} (hv : ∀ j, P j v) (hm : e.toInt ≤ m) (he : e.toInt < 2147483647) : ∀ (n : Nat) (i : Int32) (f : Nat → Int32), 0 ≤ i.toInt → (∀ j, P j (f j)) → e.toInt - i.toInt < n → 0 < n → So (Arr_fill_aII_L5 fu m v e n i f) (fun r => ∀ j, P j (r j))
  | 0, i, f, _, _, _, h => absurd h (by omega)
  | n + 1, i, f, h0, hf, hd, _ => by
    rw [Arr_fill_aII_L5]
    refine So.ite (fun _ => So.one hf) (fun c => ?_)
    rw [i_le] at c
    have e1 := i_add (a := i) (b := 1) (by have := (by decide : (1 : Int32).toInt = 1); omega) (by have := (by decide : (1 : Int32).toInt = 1); omega)
    rw [(by decide : (1 : Int32).toInt = 1)] at e1
    refine So.gd (i_in.mpr (by omega)) (So.lt ?_)
    exact t_fillI_L hv hm he n (i + 1) _ (by omega) (i_arp hf (hv _)) (by omega) (by omega)
theorem t_fillI {fu m : Nat} {v : Int32} {f : Nat → Int32} (P : Nat → Int32 → Prop) (hm : m < 10000) (hfu : 12000 ≤ fu) (hf : ∀ j, P j (f j)) (hv : ∀ j, P j v) : So (Arr_fill_aII fu m v f) (fun r => ∀ j, P j (r j)) := by
  unfold Arr_fill_aII
  have e := i_of (n := m) (by omega)
  exact t_fillI_L hv (by omega) (by omega) fu 0 f (by decide) hf (by rw [e, (by decide : (0 : Int32).toInt = 0)]; omega) (by omega)
theorem i_bme (x : Int) : x.bmod (2 ^ 32) = (x + 2147483648) % 4294967296 - 2147483648 := by
  unfold Int.bmod
  have e : ((2 ^ 32 : Nat) : Int) = 4294967296 := by decide
  rw [e]
  dsimp only
  split <;> omega
theorem i_addm (a b : Int32) : (a + b).toInt = (a.toInt + b.toInt + 2147483648) % 4294967296 - 2147483648 := by
  rw [Int32.toInt_add]
  exact i_bme _
theorem i_subm (a b : Int32) : (a - b).toInt = (a.toInt - b.toInt + 2147483648) % 4294967296 - 2147483648 := by
  rw [Int32.toInt_sub]
  exact i_bme _
theorem i_mullm (a b : Int32) (c : Int) (h : a.toInt = c) : (a * b).toInt = (c * b.toInt + 2147483648) % 4294967296 - 2147483648 := by
  rw [Int32.toInt_mul, h]
  exact i_bme _
theorem i_mulrm (a b : Int32) (c : Int) (h : b.toInt = c) : (a * b).toInt = (a.toInt * c + 2147483648) % 4294967296 - 2147483648 := by
  rw [Int32.toInt_mul, h]
  exact i_bme _
theorem i_mulm (a b : Int32) : (a * b).toInt = (a.toInt * b.toInt + 2147483648) % 4294967296 - 2147483648 := by
  rw [Int32.toInt_mul]
  exact i_bme _
