theorem i_add {a b : Int32} (h1 : -2147483648 ≤ a.toInt + b.toInt) (h2 : a.toInt + b.toInt < 2147483648) : (a + b).toInt = a.toInt + b.toInt := by
  rw [Int32.toInt_add, Int.bmod_eq_of_le (by omega) (by omega)]
theorem i_sub {a b : Int32} (h1 : -2147483648 ≤ a.toInt - b.toInt) (h2 : a.toInt - b.toInt < 2147483648) : (a - b).toInt = a.toInt - b.toInt := by
  rw [Int32.toInt_sub, Int.bmod_eq_of_le (by omega) (by omega)]
theorem i_mul {a b : Int32} (h1 : -2147483648 ≤ a.toInt * b.toInt) (h2 : a.toInt * b.toInt < 2147483648) : (a * b).toInt = a.toInt * b.toInt := by
  rw [Int32.toInt_mul, Int.bmod_eq_of_le (by omega) (by omega)]
theorem i_0 : (0 : Int32).toInt = 0 := rfl
theorem i_1 : (1 : Int32).toInt = 1 := rfl
theorem i_3 : (3 : Int32).toInt = 3 := rfl
theorem i_m1 : (-1 : Int32).toInt = -1 := rfl
theorem ck {k : Nat} (h : k < 8) : (nI k).toNatClampNeg = k := nI_clamp (by omega)
/-- the ground of a call: what the answers and the sharing stand on -/
def RB (n : Nat) (qph qgr qne qap qle qfu : AR) (qnw : Int32) (rph rgr rca rne rap rle rfu : AR) (rti : Int32) : Prop :=
  n ≤ 8 ∧ (∀ k, k < n → rph k = qph k ∧ rgr k = qgr k ∧ (0 ≤ (qph k).toInt ∧ (qph k).toInt ≤ 3) ∧ 6 ≤ (qgr k).toInt ∧ (qgr k).toInt ≤ 32) ∧
  (∀ k, k < n → (rca k = 0 ∧ qne k = -1) ∨ (rca k = 1 ∧ qne k = rne k ∧ rap k = qap k ∧ rle k = qle k ∧ (1 ≤ (qap k).toInt ∧ (qap k).toInt ≤ 32) ∧ 0 ≤ (qle k).toInt ∧ (qle k).toInt ≤ 400000)) ∧
  (∀ k, k < 8 → 0 ≤ (rne k).toInt ∧ (rne k).toInt ≤ 5000) ∧
  (∀ k, k < 3 → rfu k = qfu k ∧ 0 ≤ (qfu k).toInt ∧ (qfu k).toInt ≤ 100) ∧ (rti = qnw ∧ 0 ≤ qnw.toInt ∧ qnw.toInt ≤ 30000)
section
variable {n : Nat} {qph qgr qne qap qle qfu : AR} {qnw : Int32} {rph rgr rca rne rap rle rfu : AR} {rti : Int32}
theorem RB_times (h : RB n qph qgr qne qap qle qfu qnw rph rgr rca rne rap rle rfu rti) {k : Nat} (hk : k < n) : X0_unitsPerAmpere qph (nI k) = X1_times rph (nI k) := by
  rw [X0_unitsPerAmpere, X1_times, (h.2.1 _ (by rw [ck (by have := h.1; omega)]; exact hk)).1]
theorem RB_most (h : RB n qph qgr qne qap qle qfu qnw rph rgr rca rne rap rle rfu rti) {k : Nat} (hk : k < n) (hc : ¬ rca k = 0) : X0_lesserOfGreatestAndAppetite qgr qap (nI k) = X1_most rgr rap (nI k) := by
  have h8 : k < 8 := by have := h.1; omega
  have h1 := h.2.1 k hk
  have h2 := h.2.2.1 k hk
  rw [X0_lesserOfGreatestAndAppetite, X1_most, ck h8]
  grind
theorem RB_stl (h : RB n qph qgr qne qap qle qfu qnw rph rgr rca rne rap rle rfu rti) {k : Nat} (hk : k < n) (hc : ¬ rca k = 0) : X0_stepsLeftAt qle qnw (nI k) = X1_stepsLeft rle rti (nI k) := by
  have h8 : k < 8 := by have := h.1; omega
  have h2 := h.2.2.1 k hk
  obtain ⟨e, h3⟩ := h.2.2.2.2.2
  rw [X0_stepsLeftAt, X1_stepsLeft, ck h8, e]
  rcases h2 with ⟨a, -⟩ | ⟨-, -, -, b, -, c, d⟩
  · exact absurd a hc
  rw [b]
  have e1 : (qle k - qnw).toInt = (qle k).toInt - qnw.toInt := i_sub (by omega) (by omega)
  have e2 : (qle k - qnw < 0) ↔ (qle k).toInt < qnw.toInt := by rw [i_lt, e1, i_0]; omega
  have e3 : (qle k ≤ qnw) ↔ (qle k).toInt ≤ qnw.toInt := i_le
  by_cases h4 : (qle k).toInt < qnw.toInt
  · rw [if_pos (e2.mpr h4), if_pos (e3.mpr (by omega))]
  · rw [if_neg (fun x => h4 (e2.mp x))]
    by_cases h5 : (qle k).toInt = qnw.toInt
    · rw [if_pos (e3.mpr (by omega))]
      have : qle k = qnw := Int32.toInt_inj.mp h5
      grind
    · rw [if_neg (fun x => by have := e3.mp x; omega)]
theorem RB_tm {i : Int32} : X1_times rph i = 3 ∨ X1_times rph i = 1 := by
  rw [X1_times]; split
  · exact Or.inl rfl
  · exact Or.inr rfl
theorem RB_mostR (h : RB n qph qgr qne qap qle qfu qnw rph rgr rca rne rap rle rfu rti) {k : Nat} (hk : k < n) (hc : ¬ rca k = 0) : 1 ≤ (X1_most rgr rap (nI k)).toInt ∧ (X1_most rgr rap (nI k)).toInt ≤ 32 := by
  have h8 : k < 8 := by have := h.1; omega
  have h1 := h.2.1 k hk
  have h2 := h.2.2.1 k hk
  rcases h2 with ⟨a, -⟩ | ⟨-, -, b, -, c, -⟩
  · exact absurd a hc
  rw [X1_most, ck h8, b, h1.2.1]
  split
  · exact c
  · omega
theorem RB_div {a b : Int32} (h : 1 ≤ b.toInt) : X0_dividedRoundedUp a b = X1_up a b := by
  have h1 : (1 : Int32) ≤ b := i_le.mpr (by rw [i_1]; exact h)
  rw [X0_dividedRoundedUp, X1_up, if_pos h1]
theorem RB_lax (h : RB n qph qgr qne qap qle qfu qnw rph rgr rca rne rap rle rfu rti) {k : Nat} (hk : k < n) (hc : ¬ rca k = 0) : X0_laxityAt qph qgr qne qap qle qnw (nI k) = X1_lax rph rgr rne rap rle rti (nI k) := by
  have h8 : k < 8 := by have := h.1; omega
  have hm := RB_mostR h hk hc
  rw [X0_laxityAt, X1_lax, RB_stl h hk hc, RB_most h hk hc, RB_times h hk, ck h8]
  have hd : 1 ≤ (X1_most rgr rap (nI k) * X1_times rph (nI k)).toInt := by
    rcases RB_tm (rph := rph) (i := nI k) with e | e <;> rw [e, i_mul] <;> simp only [i_3, i_1] <;> omega
  rw [RB_div hd]
  rcases h.2.2.1 k hk with ⟨a, -⟩ | ⟨-, b, -⟩
  · exact absurd a hc
  rw [b]
theorem RB_up0 {t : Int32} (h : t = 3 ∨ t = 1) : X1_up 0 t = 0 := by rcases h with rfl | rfl <;> decide
theorem RB_reach (h : RB n qph qgr qne qap qle qfu qnw rph rgr rca rne rap rle rfu rti) {k : Nat} (hk : k < n) : X0_reachAt qph qgr qne qap qle qnw (nI k) = X1_reaches rph rgr rca rne rap rle rti (nI k) := by
  have h8 : k < 8 := by have := h.1; omega
  by_cases hc : rca k = 0
  · have e1 : X1_reaches rph rgr rca rne rap rle rti (nI k) = 0 := by
      rw [X1_reaches, ck h8, if_pos hc, if_pos hc]; split <;> rfl
    rw [e1, X0_reachAt, X0_isToBeGiven, ck h8]
    rcases h.2.2.1 k hk with ⟨-, a⟩ | ⟨b, -⟩
    · rw [a, if_pos (show (-1 : Int32) ≤ 0 by decide), if_pos rfl]
    · rw [hc] at b; exact absurd b (by decide)
  · have hm := RB_mostR h hk hc
    have ht := RB_tm (rph := rph) (i := nI k)
    have hs := RB_stl h hk hc
    rw [X0_reachAt, X1_reaches, RB_most h hk hc, RB_times h hk, ← hs, ck h8, if_neg hc, if_neg hc, X0_isToBeGiven, X0_stepsLeftAt, ck h8, RB_div (by rcases ht with e | e <;> rw [e] <;> decide)]
    have hr := h.2.2.2.1 k h8
    obtain ⟨-, h3⟩ := h.2.2.2.2.2
    rcases h.2.2.1 k hk with ⟨a, -⟩ | ⟨-, b, -, -, -, c, d⟩
    · exact absurd a hc
    rw [b]
    have e1 : (qle k - qnw).toInt = (qle k).toInt - qnw.toInt := i_sub (by omega) (by omega)
    have e2 : (qle k - qnw < 0) ↔ (qle k).toInt < qnw.toInt := by rw [i_lt, e1, i_0]; omega
    have e3 : (qle k ≤ qnw) ↔ (qle k).toInt ≤ qnw.toInt := i_le
    have e4 : (qle k - qnw ≤ 0) ↔ (qle k).toInt ≤ qnw.toInt := by rw [i_le, e1, i_0]; omega
    have e5 : ((0 : Int32) ≤ 0) := by decide
    by_cases h0 : rne k ≤ 0
    · have : rne k = 0 := by rw [i_le, i_0] at h0; exact Int32.toInt_inj.mp (by rw [i_0]; omega)
      rw [if_pos h0, this, RB_up0 ht]
      have : ¬ X1_most rgr rap (nI k) ≤ 0 := by rw [i_le, i_0]; omega
      rw [if_pos rfl, if_neg this]
      split <;> first | rfl | (split <;> rfl)
    · rw [if_neg h0]
      by_cases h5 : qle k ≤ qnw
      · have h6 := e3.mp h5
        by_cases h7 : qle k - qnw < 0
        · rw [if_pos h5, if_pos rfl, if_pos h7, if_pos e5, if_pos e5]; split <;> rfl
        · rw [if_pos h5, if_pos rfl, if_neg h7, if_pos (e4.mpr h6), if_pos (e4.mpr h6)]; split <;> rfl
      · have h6 : ¬ (qle k).toInt ≤ qnw.toInt := fun x => h5 (e3.mpr x)
        have n1 : ¬ qle k - qnw < 0 := fun x => h6 (by have := e2.mp x; omega)
        have n2 : ¬ qle k - qnw ≤ 0 := fun x => h6 (e4.mp x)
        have n3 : ¬ (1 : Int32) = 0 := by decide
        simp only [if_neg h5, if_neg n1, if_neg n2, if_neg n3]
        grind
theorem RB_reachR (h : RB n qph qgr qne qap qle qfu qnw rph rgr rca rne rap rle rfu rti) {k : Nat} (hk : k < n) : (X1_reaches rph rgr rca rne rap rle rti (nI k)).toInt ≤ 32 := by
  have h8 : k < 8 := by have := h.1; omega
  rw [X1_reaches, ck h8]
  by_cases hc : rca k = 0
  · rw [if_pos hc, if_pos hc]; split <;> decide
  · have hm := RB_mostR h hk hc
    rw [if_neg hc, if_neg hc]
    split
    · split
      · decide
      · omega
    · split
      · decide
      · rename_i h1 _; rw [i_le] at h1; omega
end
