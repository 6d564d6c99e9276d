theorem SR_high {n : Nat} {rph gi lo gj : AR} (h : SR n rph gi lo gj) : X0_phaseOfGreatestLoad lo = X1_high rph gj n := by
  have h0 : lo 0 = X1_flows rph gj n 0 := h.2 0 (by omega)
  have h1 : lo 1 = X1_flows rph gj n (nI 1) := h.2 1 (by omega)
  have h2 : lo 2 = X1_flows rph gj n (nI 2) := h.2 2 (by omega)
  have c0 : (0 : Int32).toNatClampNeg = 0 := rfl
  have c1 : (nI 1).toNatClampNeg = 1 := rfl
  have c2 : (nI (1 + 1)).toNatClampNeg = 2 := rfl
  rw [X0_phaseOfGreatestLoad, X1_high]
  simp only [X0_phaseOfGreatestLoad_L4, X1_high_L4, c0, c1, c2, h0, h1, h2]
theorem SR_diff {n : Nat} {rph gi lo gj : AR} (h : SR n rph gi lo gj) : X0_differenceOfLoads lo = X1_apart rph gj n := by
  have h0 : lo 0 = X1_flows rph gj n 0 := h.2 0 (by omega)
  have h1 : lo 1 = X1_flows rph gj n (nI 1) := h.2 1 (by omega)
  have h2 : lo 2 = X1_flows rph gj n (nI 2) := h.2 2 (by omega)
  have c0 : (0 : Int32).toNatClampNeg = 0 := rfl
  have c1 : (1 : Int32).toNatClampNeg = 1 := rfl
  have c2 : (2 : Int32).toNatClampNeg = 2 := rfl
  have e2 : nI (1 + 1) = nI 2 := rfl
  rw [X0_differenceOfLoads, c0, c1, c2, h0, h1, h2, X1_apart, X1_high]
  simp only [X1_high_L4, X1_apart_L8, e2]
  by_cases p1 : X1_flows rph gj n (nI 1) ≤ X1_flows rph gj n 0 <;> by_cases p2 : X1_flows rph gj n (nI 2) ≤ X1_flows rph gj n 0 <;> by_cases p3 : X1_flows rph gj n (nI 2) ≤ X1_flows rph gj n (nI 1) <;> simp only [p1, p2, p3, if_true, if_false] <;> generalize X1_flows rph gj n 0 = x at * <;> generalize X1_flows rph gj n (nI 1) = y at * <;> generalize X1_flows rph gj n (nI 2) = z at * <;> grind
theorem SR_giver {n : Nat} {qph rph gi lo gj : AR} {f : Int32} (hn : n ≤ 8) (hph : ∀ k, k < n → rph k = qph k) (h : SR n rph gi lo gj) : ∀ (j k : Nat) (fo mo : Int32), k + j = n → X0_mostGivenAloneAt_L7 qph gi n f j k fo mo = X1_giver_L7 rph gj n f j k fo mo := by
  intro j; induction j with
  | zero => intro k fo mo _; rfl
  | succ j ih =>
    intro k fo mo hk
    rw [X0_mostGivenAloneAt_L7, X1_giver_L7, ck (by omega), hph k (by omega), h.1 k (by omega), ih _ _ _ (by omega), ih _ _ _ (by omega)]
theorem giver_spec {n : Nat} {rph gj : AR} {f : Int32} (hn : n ≤ 8) : ∀ (j k : Nat) (fo mo : Int32), k + j = n → (X1_giver_L7 rph gj n f j k fo mo = (fo, mo)) ∨ ∃ i, i < n ∧ (X1_giver_L7 rph gj n f j k fo mo).1 = nI i ∧ mo ≤ gj i := by
  intro j; induction j with
  | zero => intro k fo mo _; exact Or.inl rfl
  | succ j ih =>
    intro k fo mo hk
    rw [X1_giver_L7, ck (by omega)]
    split
    · split
      · exact ih _ _ _ (by omega)
      · rename_i h1 h2
        rcases ih (k + 1) (nI k) (gj k) (by omega) with e | ⟨i, h3, h4, h5⟩
        · exact Or.inr ⟨k, by omega, by rw [e], by grind⟩
        · exact Or.inr ⟨i, h3, h4, by grind⟩
    · exact ih _ _ _ (by omega)
theorem giver_cases {n : Nat} {rph gj : AR} {f : Int32} (hn : n ≤ 8) : X1_giver rph gj n f = -1 ∨ ∃ i, i < n ∧ X1_giver rph gj n f = nI i ∧ 1 ≤ (gj i).toInt := by
  rw [X1_giver]
  rcases giver_spec (rph := rph) (gj := gj) (f := f) hn n 0 (-1) 1 (by omega) with e | ⟨i, h3, h4, h5⟩
  · exact Or.inl (by rw [e])
  · exact Or.inr ⟨i, h3, h4, by rw [i_le, i_1] at h5; exact h5⟩
def pot (g : AR) : Nat → Nat
  | 0 => 0
  | k + 1 => pot g k + (g k).toInt.toNat
theorem pot_out {g : AR} {i : Nat} {v : Int32} : ∀ n, n ≤ i → pot (upd g i v) n = pot g n := by
  intro n; induction n with
  | zero => intro _; rfl
  | succ n ih =>
    intro h
    rw [pot, pot, ih (by omega), upd, if_neg (by omega)]
theorem pot_upd {g : AR} {i : Nat} {v : Int32} : ∀ n, i < n → pot (upd g i v) n + (g i).toInt.toNat = pot g n + v.toInt.toNat := by
  intro n; induction n with
  | zero => intro h; omega
  | succ n ih =>
    intro h
    rw [pot, pot]
    by_cases e : i = n
    · subst e; rw [pot_out _ (Nat.le_refl _), upd, if_pos rfl]; omega
    · have := ih (by omega)
      rw [upd, if_neg (by omega)]; omega
theorem pot_le {g : AR} {b : Nat} : ∀ n, (∀ k, k < n → (g k).toInt ≤ b) → pot g n ≤ b * n := by
  intro n; induction n with
  | zero => intro _; exact Nat.zero_le _
  | succ n ih =>
    intro h
    have h1 := ih (fun k hk => h k (by omega))
    have h2 := h n (by omega)
    rw [pot, Nat.mul_add, Nat.mul_one]; omega
theorem pot_cut {g : AR} {i n : Nat} (hi : i < n) (h : 1 ≤ (g i).toInt) : pot (upd g i (g i - 1)) n + 1 = pot g n := by
  have h1 := pot_upd (g := g) (v := g i - 1) n hi
  have h3 := Int32.toInt_lt (g i)
  have h2 : (g i - 1).toInt = (g i).toInt - 1 := i_sub (a := g i) (b := 1) (by rw [i_1]; omega) (by rw [i_1]; omega)
  omega
theorem nI_nm1 {i : Nat} (h : i < 8) : ¬ nI i = -1 ∧ ¬ nI i < 0 := by
  have e := nI_toInt (n := i) (by omega)
  refine ⟨fun c => ?_, fun c => ?_⟩
  · rw [c, i_m1] at e; omega
  · rw [i_lt, e, i_0] at c; omega
/-- X1_shares_L46_T: the cuts come to an end -/
theorem bal_T {rph : AR} {rba : Int32} {n : Nat} (hn : n ≤ 8) : ∀ (j : Nat) (g : AR), pot g n < j → X1_shares_L46_T rph rba n j g := by
  intro j; induction j with
  | zero => intro g h; omega
  | succ j ih =>
    intro g h
    rw [X1_shares_L46_T]
    split
    · trivial
    · split
      · trivial
      · rename_i h1 h2
        rcases giver_cases (rph := rph) (gj := g) (f := X1_high rph g n) hn with e | ⟨i, h3, h4, h5⟩
        · rw [e] at h2; exact absurd (by decide) h2
        · rw [h4, ck (by omega)]
          have := pot_cut h3 h5
          exact ih _ (by omega)
theorem bal_eq {n : Nat} {qph rph : AR} {gd : Int32} (hn : n ≤ 8) (hph : ∀ k, k < n → rph k = qph k) : ∀ (j j2 k : Nat) (gi lo gj : AR), pot gj n ≤ j → j < j2 → SR n rph gi lo gj → SR n rph (X0_keepBalance_L2 qph gd n j k gi lo).1 (X0_keepBalance_L2 qph gd n j k gi lo).2 (X1_shares_L46 rph gd n j2 gj) := by
  intro j; induction j with
  | zero =>
    intro j2 k gi lo gj h0 h2 h
    obtain ⟨j3, rfl⟩ : ∃ j3, j2 = j3 + 1 := ⟨j2 - 1, by omega⟩
    rw [X0_keepBalance_L2, X1_shares_L46]
    split
    · exact h
    · split
      · exact h
      · rename_i h1 h2
        rcases giver_cases (rph := rph) (gj := gj) (f := X1_high rph gj n) hn with e | ⟨i, h3, h4, h5⟩
        · rw [e] at h2; exact absurd (by decide) h2
        · have := pot_cut h3 h5; omega
  | succ j ih =>
    intro j2 k gi lo gj h0 h2 h
    obtain ⟨j3, rfl⟩ : ∃ j3, j2 = j3 + 1 := ⟨j2 - 1, by omega⟩
    have eg : X0_mostGivenAloneAt qph gi n (X0_phaseOfGreatestLoad lo) = X1_giver rph gj n (X1_high rph gj n) := by
      rw [SR_high h, X0_mostGivenAloneAt, X1_giver, SR_giver hn hph h n 0 _ _ (by omega)]
    rw [X0_keepBalance_L2, X1_shares_L46, SR_diff h, eg]
    by_cases c : gd < X1_apart rph gj n
    · rw [if_pos c, if_neg (by grind : ¬ X1_apart rph gj n ≤ gd)]
      rcases giver_cases (rph := rph) (gj := gj) (f := X1_high rph gj n) hn with e | ⟨i, h3, h4, h5⟩
      · rw [e, if_pos rfl, if_pos (by decide)]; exact h
      · have hm := nI_nm1 (i := i) (by omega)
        rw [h4, if_neg hm.1, if_neg hm.2, ck (by omega)]
        have hp := pot_cut h3 h5
        exact ih j3 (k + 1) _ _ _ (by omega) (by omega) (SR_give hn h3 (hph i h3) h (by grind))
    · rw [if_neg c, if_pos (by grind : X1_apart rph gj n ≤ gd)]; exact h
/-- what the cuts leave: no less than 0, no more than before -/
theorem bal_rng {rph : AR} {gd : Int32} {n : Nat} (hn : n ≤ 8) : ∀ (j : Nat) (g : AR), (∀ k, k < n → 0 ≤ (g k).toInt) → ∀ k, k < n → 0 ≤ (X1_shares_L46 rph gd n j g k).toInt ∧ (X1_shares_L46 rph gd n j g k).toInt ≤ (g k).toInt := by
  intro j; induction j with
  | zero => intro g h k hk; exact ⟨h k hk, Int.le_refl _⟩
  | succ j ih =>
    intro g h k hk
    rw [X1_shares_L46]
    split
    · exact ⟨h k hk, Int.le_refl _⟩
    · split
      · exact ⟨h k hk, Int.le_refl _⟩
      · rename_i h1 h2
        rcases giver_cases (rph := rph) (gj := g) (f := X1_high rph g n) hn with e | ⟨i, h3, h4, h5⟩
        · rw [e] at h2; exact absurd (by decide) h2
        · rw [h4, ck (by omega)]
          have h7 := Int32.toInt_lt (g i)
          have h6 : (g i - 1).toInt = (g i).toInt - 1 := i_sub (a := g i) (b := 1) (by rw [i_1]; omega) (by rw [i_1]; omega)
          have hu : ∀ q, q < n → 0 ≤ (upd g i (g i - 1) q).toInt ∧ (upd g i (g i - 1) q).toInt ≤ (g q).toInt := by
            intro q hq
            unfold upd
            by_cases e : q = i
            · rw [if_pos e, e]; omega
            · rw [if_neg e]; exact ⟨h q hq, Int.le_refl _⟩
          have h8 := ih (upd g i (g i - 1)) (fun q hq => (hu q hq).1) k hk
          exact ⟨h8.1, Int.le_trans h8.2 (hu k hk).2⟩
