-- what a compiled list is
def Sg (J : Nat → Nat → Nat → Nat → Prop) : Nat → Nat → Nat → Nat → Nat → Prop
  | 0, p, q, a, b => p = q ∧ a = b
  | m + 1, p, q, a, b => ∃ p' a', J p p' a a' ∧ Sg J m p' q a' b
def It (F : Nat → Int32) (Z : Nat → Nat) (D B : Nat → Int32) : Nat → Nat → Nat → Nat → Nat → Prop
  | 0, _, _, _, _ => False
  | n + 1, p, p', a, b => D a = F p ∧ (((¬ (100 ≤ (F p).toInt ∧ (F p).toInt ≤ 115) ∧ ¬ (216 ≤ (F p).toInt ∧ (F p).toInt ≤ 343)) ∧ p' = p + 1 ∧ b = a + 1) ∨ ((100 ≤ (F p).toInt ∧ (F p).toInt ≤ 115) ∧ p' = p + 1 ∧ 0 < Z ((F p).toInt - 100).toNat ∧ ∃ m, Sg (It F Z D B n) m (8 * ((F p).toInt - 100).toNat) (8 * ((F p).toInt - 100).toNat + Z ((F p).toInt - 100).toNat) (a + 1) b) ∨ ((216 ≤ (F p).toInt ∧ (F p).toInt ≤ 343) ∧ ¬ ((F p).toInt - 200) % 16 = 0 ∧ p' = p + 1 + (((F p).toInt - 200) / 16).toNat ∧ (B a).toInt = (b : Int) ∧ ∃ m, Sg (It F Z D B n) m (p + 1) p' (a + 1) b) ∨ ((216 ≤ (F p).toInt ∧ (F p).toInt ≤ 343) ∧ ((F p).toInt - 200) % 16 = 0 ∧ p' = p + 2 + (((F p).toInt - 200) / 16).toNat ∧ (0 ≤ (F (p + 1)).toInt ∧ (F (p + 1)).toInt ≤ 63) ∧ D (a + 1) = F (p + 1) ∧ (B a).toInt = (b : Int) ∧ ∃ m, Sg (It F Z D B n) m (p + 2) p' (a + 2) b))
theorem Sg_imp {J K : Nat → Nat → Nat → Nat → Prop} (h : ∀ p p' a b, J p p' a b → K p p' a b) : ∀ (m p q a b : Nat), Sg J m p q a b → Sg K m p q a b
  | 0, p, q, a, b, H => H
  | m + 1, p, q, a, b, ⟨p', a', h1, h2⟩ => ⟨p', a', h _ _ _ _ h1, Sg_imp h m p' q a' b h2⟩
theorem It_mono {F : Nat → Int32} {Z : Nat → Nat} {D B : Nat → Int32} : ∀ (n p p' a b : Nat), It F Z D B n p p' a b → It F Z D B (n + 1) p p' a b
  | 0, p, p', a, b, H => H.elim
  | n + 1, p, p', a, b, H => by
    obtain ⟨h1, h2⟩ := H
    refine ⟨h1, ?_⟩
    rcases h2 with h | ⟨h, h3, h4, m, h5⟩ | ⟨h, h3, h4, h5, m, h6⟩ | ⟨h, h3, h4, h5, h6, h7, m, h8⟩
    · exact Or.inl h
    · exact Or.inr (Or.inl ⟨h, h3, h4, m, Sg_imp (It_mono n) m _ _ _ _ h5⟩)
    · exact Or.inr (Or.inr (Or.inl ⟨h, h3, h4, h5, m, Sg_imp (It_mono n) m _ _ _ _ h6⟩))
    · exact Or.inr (Or.inr (Or.inr ⟨h, h3, h4, h5, h6, h7, m, Sg_imp (It_mono n) m _ _ _ _ h8⟩))
theorem It_le {F : Nat → Int32} {Z : Nat → Nat} {D B : Nat → Int32} {n p p' a b : Nat} : ∀ k, It F Z D B n p p' a b → It F Z D B (n + k) p p' a b
  | 0, H => H
  | k + 1, H => It_mono (n + k) _ _ _ _ (It_le k H)
theorem Sg_le {F : Nat → Int32} {Z : Nat → Nat} {D B : Nat → Int32} {n m p q a b : Nat} (k : Nat) (H : Sg (It F Z D B n) m p q a b) : Sg (It F Z D B (n + k)) m p q a b := Sg_imp (fun _ _ _ _ h => It_le k h) m p q a b H
theorem Sg_snoc {J : Nat → Nat → Nat → Nat → Prop} : ∀ (m p q a b q' b' : Nat), Sg J m p q a b → J q q' b b' → Sg J (m + 1) p q' a b'
  | 0, p, q, a, b, q', b', ⟨h1, h2⟩, H => by
    subst h1
    subst h2
    exact ⟨q', b', H, rfl, rfl⟩
  | m + 1, p, q, a, b, q', b', ⟨p', a', h1, h2⟩, H => ⟨p', a', h1, Sg_snoc m p' q a' b q' b' h2 H⟩
theorem Sg_adv {J : Nat → Nat → Nat → Nat → Prop} (h : ∀ p p' a b, J p p' a b → p < p' ∧ a < b) : ∀ (m p q a b : Nat), Sg J m p q a b → (m = 0 ∧ p = q ∧ a = b) ∨ (p < q ∧ a < b)
  | 0, p, q, a, b, ⟨h1, h2⟩ => Or.inl ⟨rfl, h1, h2⟩
  | m + 1, p, q, a, b, ⟨p', a', h1, h2⟩ => by
    have e := h _ _ _ _ h1
    rcases Sg_adv h m p' q a' b h2 with ⟨_, x, y⟩ | ⟨x, y⟩
    · exact Or.inr ⟨by omega, by omega⟩
    · exact Or.inr ⟨by omega, by omega⟩
theorem It_adv {F : Nat → Int32} {Z : Nat → Nat} {D B : Nat → Int32} : ∀ (n p p' a b : Nat), It F Z D B n p p' a b → p < p' ∧ a < b
  | 0, p, p', a, b, H => H.elim
  | n + 1, p, p', a, b, H => by
    obtain ⟨_, h2⟩ := H
    rcases h2 with h | ⟨h, h3, h4, m, h5⟩ | ⟨h, h3, h4, h5, m, h6⟩ | ⟨h, h3, h4, h5, h6, h7, m, h8⟩
    · omega
    · rcases Sg_adv (It_adv n) m _ _ _ _ h5 with ⟨_, x, y⟩ | ⟨x, y⟩ <;> omega
    · rcases Sg_adv (It_adv n) m _ _ _ _ h6 with ⟨_, x, y⟩ | ⟨x, y⟩ <;> omega
    · rcases Sg_adv (It_adv n) m _ _ _ _ h8 with ⟨_, x, y⟩ | ⟨x, y⟩ <;> omega
-- only what lies in its part of the program counts
theorem Sg_cong {J K : Nat → Nat → Nat → Nat → Prop} {lo hi : Nat} (hJ : ∀ p p' a b, J p p' a b → a < b) (h : ∀ p p' a b, lo ≤ a → b ≤ hi → J p p' a b → K p p' a b) : ∀ (m p q a b : Nat), lo ≤ a → b ≤ hi → Sg J m p q a b → Sg K m p q a b
  | 0, p, q, a, b, _, _, H => H
  | m + 1, p, q, a, b, h0, h1, ⟨p', a', H1, H2⟩ => by
    have e := hJ _ _ _ _ H1
    have e2 : a' ≤ b := by
      have : ∀ (m p q a b : Nat), Sg J m p q a b → a ≤ b := by
        intro m
        induction m with
        | zero => intro p q a b H; exact Nat.le_of_eq H.2
        | succ m ih =>
          intro p q a b H
          obtain ⟨p1, a1, k1, k2⟩ := H
          exact Nat.le_trans (Nat.le_of_lt (hJ _ _ _ _ k1)) (ih _ _ _ _ k2)
      exact this m p' q a' b H2
    exact ⟨p', a', h _ _ _ _ h0 (by omega) H1, Sg_cong hJ h m p' q a' b (by omega) h1 H2⟩
theorem It_cong {F : Nat → Int32} {Z : Nat → Nat} {D B D' B' : Nat → Int32} {lo hi : Nat} (hD : ∀ j, lo ≤ j → j < hi → D' j = D j) (hB : ∀ j, lo ≤ j → j < hi → B' j = B j) : ∀ (n p p' a b : Nat), lo ≤ a → b ≤ hi → It F Z D B n p p' a b → It F Z D' B' n p p' a b
  | 0, p, p', a, b, _, _, H => H.elim
  | n + 1, p, p', a, b, h0, h1, H => by
    have adv := It_adv (n + 1) p p' a b H
    obtain ⟨g1, g2⟩ := H
    have c : ∀ (m p q a1 b1 : Nat), lo ≤ a1 → b1 ≤ hi → Sg (It F Z D B n) m p q a1 b1 → Sg (It F Z D' B' n) m p q a1 b1 := fun m p q a1 b1 k0 k1 K => Sg_cong (fun _ _ _ _ h => (It_adv n _ _ _ _ h).2) (fun p p' a b x y z => It_cong hD hB n p p' a b x y z) m p q a1 b1 k0 k1 K
    refine ⟨by rw [hD a h0 (by omega)]; exact g1, ?_⟩
    rcases g2 with h | ⟨h, h3, h4, m, h5⟩ | ⟨h, h3, h4, h5, m, h6⟩ | ⟨h, h3, h4, h5, h6, h7, m, h8⟩
    · exact Or.inl h
    · exact Or.inr (Or.inl ⟨h, h3, h4, m, c m _ _ _ _ (by omega) h1 h5⟩)
    · exact Or.inr (Or.inr (Or.inl ⟨h, h3, h4, by rw [hB a h0 (by omega)]; exact h5, m, c m _ _ _ _ (by omega) h1 h6⟩))
    · have e2 : a + 2 ≤ b := by
        rcases Sg_adv (It_adv n) m _ _ _ _ h8 with ⟨_, x, y⟩ | ⟨x, y⟩ <;> omega
      exact Or.inr (Or.inr (Or.inr ⟨h, h3, h4, h5, by rw [hD (a + 1) (by omega) (by omega)]; exact h6, by rw [hB a h0 (by omega)]; exact h7, m, c m _ _ _ _ (by omega) h1 h8⟩))
theorem SgI_cong {F : Nat → Int32} {Z : Nat → Nat} {D B D' B' : Nat → Int32} {n m p q a b : Nat} (hD : ∀ j, a ≤ j → j < b → D' j = D j) (hB : ∀ j, a ≤ j → j < b → B' j = B j) (H : Sg (It F Z D B n) m p q a b) : Sg (It F Z D' B' n) m p q a b := Sg_cong (fun _ _ _ _ h => (It_adv n _ _ _ _ h).2) (fun p p' a b x y z => It_cong hD hB n p p' a b x y z) m p q a b (Nat.le_refl _) (Nat.le_refl _) H
