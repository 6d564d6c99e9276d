def RG (n : Nat) (g : AR) : Prop := ∀ k, k < n → 0 ≤ (g k).toInt ∧ (g k).toInt ≤ 32
def QP (n : Nat) (rph rfu g pa : AR) : Prop := ∀ k, k < n → ¬ pa k = 0 → X1_room rph rfu g n (nI k) ≤ 0
section
variable {n : Nat} {qph qfu rph rgr rca rne rap rle rfu : AR} {rti : Int32} {wa : AR}
theorem upd_self {f : AR} {k : Nat} : upd f k (f k) = f := by funext q; unfold upd; split <;> simp_all
theorem fair_eq_round (hn : n ≤ 8) (hR : ∀ k, k < n → X1_reaches rph rgr rca rne rap rle rti (nI k) = wa k) (h32 : ∀ k, k < n → (wa k).toInt ≤ 32) (hph : ∀ k, k < n → rph k = qph k) (hfu : ∀ p, p < 3 → rfu p = qfu p) (hfb : ∀ p, p < 3 → 0 ≤ (rfu p).toInt ∧ (rfu p).toInt ≤ 100) : ∀ (j k : Nat) (ms : Int32) (g pa gi lo : AR), k + j = n → SR n rph gi lo g → LF n rph rfu g → RG n g → QP n rph rfu g pa → (ms = 0 ∨ ms = 1) →
    (X0_raiseAll_L4 qph qfu wa n j k ms gi lo).1 = (X1_fairly_L10 rph rgr rca rne rap rle rfu rti n j k ms g pa).1 ∧ SR n rph (X0_raiseAll_L4 qph qfu wa n j k ms gi lo).2.1 (X0_raiseAll_L4 qph qfu wa n j k ms gi lo).2.2 (X1_fairly_L10 rph rgr rca rne rap rle rfu rti n j k ms g pa).2.1 ∧ LF n rph rfu (X1_fairly_L10 rph rgr rca rne rap rle rfu rti n j k ms g pa).2.1 ∧ RG n (X1_fairly_L10 rph rgr rca rne rap rle rfu rti n j k ms g pa).2.1 ∧ QP n rph rfu (X1_fairly_L10 rph rgr rca rne rap rle rfu rti n j k ms g pa).2.1 (X1_fairly_L10 rph rgr rca rne rap rle rfu rti n j k ms g pa).2.2 ∧ ((X1_fairly_L10 rph rgr rca rne rap rle rfu rti n j k ms g pa).1 = 0 ∨ (X1_fairly_L10 rph rgr rca rne rap rle rfu rti n j k ms g pa).1 = 1) := by
  intro j; induction j with
  | zero => intro k ms g pa gi lo _ h1 h2 h3 h4 h5; exact ⟨rfl, h1, h2, h3, h4, h5⟩
  | succ j ih =>
    intro k ms g pa gi lo hk h1 h2 h3 h4 h5
    have hkn : k < n := by omega
    have h8 : k < 8 := by omega
    rw [fair_step hR hkn h8, X0_raiseAll_L4, ck h8, h1.1 k hkn, SR_roomE h8 (hph k hkn) hfu h1]
    by_cases c1 : wa k ≤ g k
    · rw [if_pos c1, if_pos c1]; exact ih _ _ _ _ _ _ (by omega) h1 h2 h3 h4 h5
    · rw [if_neg c1, if_neg c1]
      by_cases c2 : pa k = 0
      · rw [if_pos c2]
        by_cases c3 : 1 ≤ X1_room rph rfu g n (nI k)
        · have c4 : ¬ X1_room rph rfu g n (nI k) ≤ 0 := by grind
          rw [if_pos c3, if_neg c4]
          have e5 : ms ||| 1 = 1 := by rcases h5 with rfl | rfl <;> decide
          rw [e5]
          have hl := LF_upd (v := g k + 1) hn hkn hfb h2 (by grind) (by grind)
          refine ih _ _ _ _ _ _ (by omega) (SR_give hn hkn (hph k hkn) h1 rfl) hl.1 (fun q hq => ?_) (fun q hq hp => ?_) (Or.inr rfl)
          · unfold upd
            by_cases e : q = k
            · have h6 := h32 k hkn
              have h7 := h3 k hkn
              have h9 : (g k).toInt < (wa k).toInt := by rw [i_le] at c1; omega
              rw [if_pos e, i_add (by rw [i_1]; omega) (by rw [i_1]; omega), i_1]; omega
            · rw [if_neg e]; exact h3 q hq
          · have e : ¬ q = k := fun e => hp (by rw [e]; unfold upd; rw [if_pos rfl])
            have hp2 : ¬ pa q = 0 := fun x => hp (by unfold upd; rw [if_neg e]; exact x)
            exact Int32.le_trans (room_mono (by omega) hfb h2 hl.1 hl.2) (h4 q hq hp2)
        · have c4 : X1_room rph rfu g n (nI k) ≤ 0 := by rw [i_le] at c3 ⊢; rw [i_1] at c3; rw [i_0]; omega
          rw [if_neg c3, if_pos c4, upd_self]
          refine ih _ _ _ _ _ _ (by omega) h1 h2 h3 (fun q hq hp => ?_) h5
          by_cases e : q = k
          · rw [e]; exact c4
          · exact h4 q hq (fun x => hp (by unfold upd; rw [if_neg e]; exact x))
      · rw [if_neg c2, if_pos (h4 k hkn c2)]; exact ih _ _ _ _ _ _ (by omega) h1 h2 h3 h4 h5
theorem fair_eq (hn : n ≤ 8) (hR : ∀ k, k < n → X1_reaches rph rgr rca rne rap rle rti (nI k) = wa k) (h32 : ∀ k, k < n → (wa k).toInt ≤ 32) (hph : ∀ k, k < n → rph k = qph k) (hfu : ∀ p, p < 3 → rfu p = qfu p) (hfb : ∀ p, p < 3 → 0 ≤ (rfu p).toInt ∧ (rfu p).toInt ≤ 100) : ∀ (j j2 k : Nat) (ms : Int32) (g pa gi lo : AR) (r : Nat), r + j = 32 → j + 2 ≤ j2 → SR n rph gi lo g → LF n rph rfu g → RG n g → QP n rph rfu g pa → (ms = 0 ∨ ms = 1) → Inv n wa g pa r 0 →
    SR n rph (X0_shareFairly_L4 qph qfu wa n j k ms gi lo).2.1 (X0_shareFairly_L4 qph qfu wa n j k ms gi lo).2.2 (X1_fairly_L2 rph rgr rca rne rap rle rfu rti n j2 ms g pa).2.1 ∧ LF n rph rfu (X1_fairly_L2 rph rgr rca rne rap rle rfu rti n j2 ms g pa).2.1 ∧ RG n (X1_fairly_L2 rph rgr rca rne rap rle rfu rti n j2 ms g pa).2.1 := by
  intro j; induction j with
  | zero =>
    intro j2 k ms g pa gi lo r hr h2 h1 hL hG hQ h5 hI
    obtain ⟨j3, rfl⟩ : ∃ j3, j2 = j3 + 2 := ⟨j2 - 2, by omega⟩
    have e : (X0_shareFairly_L4 qph qfu wa n 0 k ms gi lo) = (ms, gi, lo) := by rw [X0_shareFairly_L4]; split <;> rfl
    rw [e, X1_fairly_L2]
    split
    · exact ⟨h1, hL, hG⟩
    · rw [fair_done hn hR (Inv_32 h32 (by omega) hI) n 0 0 (by omega), X1_fairly_L2, if_pos rfl]
      exact ⟨h1, hL, hG⟩
  | succ j ih =>
    intro j2 k ms g pa gi lo r hr h2 h1 hL hG hQ h5 hI
    obtain ⟨j3, rfl⟩ : ∃ j3, j2 = j3 + 1 := ⟨j2 - 1, by omega⟩
    rw [X0_shareFairly_L4, X1_fairly_L2]
    by_cases c : ms = 0
    · rw [if_pos c, if_pos c]; exact ⟨h1, hL, hG⟩
    · rw [if_neg c, if_neg c]
      have hh := fair_eq_round hn hR h32 hph hfu hfb n 0 0 g pa gi lo (by omega) h1 hL hG hQ (Or.inl rfl)
      have hi := Inv_next (fair_inv (rfu := rfu) hn hR h32 n 0 0 g pa (by omega) hI)
      rw [X0_raiseAll]
      dsimp only
      rw [hh.1]
      exact ih j3 (k + 1) _ _ _ _ _ (r + 1) (by omega) (by omega) hh.2.1 hh.2.2.1 hh.2.2.2.1 hh.2.2.2.2.1 hh.2.2.2.2.2 hi
end
