section
variable {n : Nat} {qph qgr qne qap qle qfu : AR} {qnw : Int32} {rph rgr rca rne rap rle rfu : AR} {rti : Int32} {wa lx : AR}
theorem nI_inj8 {a b : Nat} (ha : a < 2 ^ 31) (hb : b < 2 ^ 31) : nI a = nI b ↔ a = b := by
  refine ⟨fun h => ?_, fun h => by rw [h]⟩
  have h1 := nI_toInt ha
  rw [h, nI_toInt hb] at h1
  omega
theorem ahead_cnt (hn : n ≤ 8) (hR : ∀ k, k < n → X1_reaches rph rgr rca rne rap rle rti (nI k) = wa k) (hL : ∀ k, k < n → X1_lax rph rgr rne rap rle rti (nI k) = lx k) {i : Nat} (hi : i < n) : ∀ (j k : Nat), k + j = n → X1_ahead_L4 rph rgr rca rne rap rle rti n (nI i) j k (nI (cnt wa lx i k)) = nI (cnt wa lx i n) := by
  intro j; induction j with
  | zero => intro k hk; rw [show k = n by omega]; rfl
  | succ j ih =>
    intro k hk
    have e0 : ∀ a : Nat, nI a + 0 = nI a := fun a => by grind
    have ih0 := ih (k + 1) (by omega)
    rw [cnt] at ih0
    have hle : nI i ≤ nI k ↔ i ≤ k := nI_leI (by omega) (by omega)
    rw [X1_ahead_L4, hR k (by omega), hL k (by omega), hL i hi, e0, nI_1]
    by_cases c : bf wa lx k i
    · rw [if_pos c] at ih0
      rw [if_neg c.1]
      rcases c.2 with x | ⟨x, y⟩
      · rw [if_pos x]; exact ih0
      · rw [if_neg (by rw [x]; exact Int32.lt_irrefl), if_pos x, if_neg (fun z => by have := hle.mp z; omega)]; exact ih0
    · rw [if_neg c, Nat.add_zero] at ih0
      by_cases c1 : wa k ≤ 0
      · rw [if_pos c1]; exact ih0
      · rw [if_neg c1, if_neg (fun x => c ⟨c1, Or.inl x⟩)]
        by_cases c2 : lx k = lx i
        · rw [if_pos c2, if_pos (hle.mpr (by rcases Nat.lt_or_ge k i with z | z; exact absurd ⟨c1, Or.inr ⟨c2, z⟩⟩ c; exact z))]; exact ih0
        · rw [if_neg c2]; exact ih0
theorem ahead_eq (hn : n ≤ 8) (hR : ∀ k, k < n → X1_reaches rph rgr rca rne rap rle rti (nI k) = wa k) (hL : ∀ k, k < n → X1_lax rph rgr rne rap rle rti (nI k) = lx k) {i : Nat} (hi : i < n) : X1_ahead rph rgr rca rne rap rle rti n (nI i) = nI (cnt wa lx i n) := ahead_cnt hn hR hL hi n 0 (by omega)
theorem d_none (hn : n ≤ 8) (hR : ∀ k, k < n → X1_reaches rph rgr rca rne rap rle rti (nI k) = wa k) (hL : ∀ k, k < n → X1_lax rph rgr rne rap rle rti (nI k) = lx k) {k : Nat} (hk8 : k ≤ 8) : ∀ (j q : Nat) (g : AR), q + j = n → (∀ i, q ≤ i → i < n → ¬ wa i ≤ 0 → cnt wa lx i n ≠ k) → X1_byLaxity_L12 rph rgr rca rne rap rle rfu rti n k j q g = g := by
  intro j; induction j with
  | zero => intro q g _ _; rfl
  | succ j ih =>
    intro q g hq h
    have ihh := ih (q + 1) g (by omega) (fun i a b c => h i (by omega) b c)
    have hc := cnt_act (wa := wa) (lx := lx) (i := q) n
    have ha := actc_le (wa := wa) n
    rw [X1_byLaxity_L12, hR q (by omega), ahead_eq hn hR hL (by omega)]
    by_cases c : wa q ≤ 0
    · rw [if_pos c]; exact ihh
    · rw [if_neg c, if_neg (fun e => h q (Nat.le_refl _) (by omega) c ((nI_inj8 (by omega) (by omega)).mp e))]; exact ihh
theorem d_one (hn : n ≤ 8) (hR : ∀ k, k < n → X1_reaches rph rgr rca rne rap rle rti (nI k) = wa k) (hL : ∀ k, k < n → X1_lax rph rgr rne rap rle rti (nI k) = lx k) {k i : Nat} (hi : i < n) (hai : ¬ wa i ≤ 0) (hci : cnt wa lx i n = k) : ∀ (j q : Nat) (g : AR), q + j = n → q ≤ i → X1_byLaxity_L12 rph rgr rca rne rap rle rfu rti n k j q g = upd g i (if wa i ≤ X1_room rph rfu g n (nI i) then wa i else X1_room rph rfu g n (nI i)) := by
  have hk8 : k ≤ 8 := by
    have hc := cnt_act (wa := wa) (lx := lx) (i := i) n
    have ha := actc_le (wa := wa) n
    omega
  intro j; induction j with
  | zero => intro q g h1 h2; omega
  | succ j ih =>
    intro q g hq h2
    have hc := cnt_act (wa := wa) (lx := lx) (i := q) n
    have ha := actc_le (wa := wa) n
    rw [X1_byLaxity_L12, hR q (by omega), ahead_eq hn hR hL (by omega)]
    by_cases e : q = i
    · subst e
      rw [if_neg hai, if_pos (by rw [hci]), ck (by omega)]
      have nn : ∀ x, q + 1 ≤ x → x < n → ¬ wa x ≤ 0 → cnt wa lx x n ≠ k := fun x a b c d => by
        have := cnt_inj c hai b hi (by rw [d, hci]); omega
      split <;> exact d_none hn hR hL hk8 j (q + 1) _ (by omega) nn
    · have ihh := ih (q + 1) g (by omega) (by omega)
      by_cases c : wa q ≤ 0
      · rw [if_pos c]; exact ihh
      · rw [if_neg c, if_neg (fun x => e (cnt_inj c hai (by omega) hi (by rw [hci]; exact (nI_inj8 (by omega) (by omega)).mp x)))]; exact ihh
theorem dist_none (hn : n ≤ 8) (hR : ∀ k, k < n → X1_reaches rph rgr rca rne rap rle rti (nI k) = wa k) (hL : ∀ k, k < n → X1_lax rph rgr rne rap rle rti (nI k) = lx k) {w : Nat} (hw : ∀ i, i < n → ¬ wa i ≤ 0 → cnt wa lx i n < w) : ∀ (j k : Nat) (g : AR), k + j = n → w ≤ k → X1_byLaxity_L2 rph rgr rca rne rap rle rfu rti n j k g = g := by
  intro j; induction j with
  | zero => intro k g _ _; rfl
  | succ j ih =>
    intro k g hk h
    rw [X1_byLaxity_L2, d_none hn hR hL (by omega) n 0 g (by omega) (fun i _ b c => by have := hw i b c; omega)]
    exact ih _ _ (by omega) (by omega)
theorem dist_eq (hn : n ≤ 8) (hR : ∀ k, k < n → X1_reaches rph rgr rca rne rap rle rti (nI k) = wa k) (hL : ∀ k, k < n → X1_lax rph rgr rne rap rle rti (nI k) = lx k) (h32 : ∀ k, k < n → (wa k).toInt ≤ 32) (hph : ∀ k, k < n → rph k = qph k) (hfu : ∀ p, p < 3 → rfu p = qfu p) (hfb : ∀ p, p < 3 → 0 ≤ (rfu p).toInt ∧ (rfu p).toInt ≤ 100) {w : Nat} {tu0 : AR}
    (hT : PT wa lx n w (X0_shareByLaxity_L4 qph qgr qne qap qle qnw wa n n 0 0 tu0).2) : ∀ (j j2 k : Nat) (gi lo g : AR), k + j = w → k + j2 = n → SR n rph gi lo g → LF n rph rfu g → RG n g → (∀ i, i < n → ¬ wa i ≤ 0 → k ≤ cnt wa lx i n → g i = 0) →
    SR n rph (X0_shareByLaxity_L38 qph qgr qne qap qle qfu qnw wa tu0 n j k gi lo).1 (X0_shareByLaxity_L38 qph qgr qne qap qle qfu qnw wa tu0 n j k gi lo).2 (X1_byLaxity_L2 rph rgr rca rne rap rle rfu rti n j2 k g) ∧ LF n rph rfu (X1_byLaxity_L2 rph rgr rca rne rap rle rfu rti n j2 k g) ∧ RG n (X1_byLaxity_L2 rph rgr rca rne rap rle rfu rti n j2 k g) := by
  obtain ⟨t1, t2, t3⟩ := hT
  intro j; induction j with
  | zero =>
    intro j2 k gi lo g hk hk2 h1 hL2 hG h0
    rw [dist_none hn hR hL (w := w) (fun i a b => (t2 i a b).1) j2 k g hk2 (by omega)]
    exact ⟨h1, hL2, hG⟩
  | succ j ih =>
    intro j2 k gi lo g hk hk2 h1 hL2 hG h0
    have ha := actc_le (wa := wa) n
    obtain ⟨j3, rfl⟩ : ∃ j3, j2 = j3 + 1 := ⟨j2 - 1, by omega⟩
    obtain ⟨i, hi, hai, hci⟩ := t3 k (by omega)
    have htu := (t2 i hi hai).2
    rw [hci] at htu
    have hg0 := h0 i hi hai (by omega)
    rw [X0_shareByLaxity_L38, X1_byLaxity_L2, d_one hn hR hL hi hai hci n 0 g (by omega) (by omega), ck (by omega : k < 8), htu, ck (by omega : i < 8), SR_roomE (by omega) (hph i hi) hfu h1]
    have hr0 := LF_room (n := n) (i := i) (by omega) hfb hL2
    have hv : (if X1_room rph rfu g n (nI i) < wa i then X1_room rph rfu g n (nI i) else wa i) = (if wa i ≤ X1_room rph rfu g n (nI i) then wa i else X1_room rph rfu g n (nI i)) := by grind
    rw [hv]
    generalize hvv : (if wa i ≤ X1_room rph rfu g n (nI i) then wa i else X1_room rph rfu g n (nI i)) = v
    have v0 : 0 ≤ v := by grind
    have v1 : v ≤ X1_room rph rfu g n (nI i) := by grind
    have v2 : v ≤ wa i := by grind
    have ez : v - g i = v := by rw [hg0]; grind
    have hl := LF_upd (v := v) hn hi hfb hL2 (by rw [ez]; exact v0) (by rw [ez]; exact v1)
    refine ih j3 (k + 1) _ _ _ (by omega) (by omega) (SR_give hn hi (hph i hi) h1 (by rw [hg0]; grind)) hl.1 (fun q hq => ?_) (fun q hq a b => ?_)
    · unfold upd
      by_cases e : q = i
      · rw [if_pos e]
        have := h32 i hi
        rw [i_le] at v0 v2
        rw [i_0] at v0
        omega
      · rw [if_neg e]; exact hG q hq
    · have e : q ≠ i := fun e => by rw [e, hci] at b; omega
      unfold upd; rw [if_neg e]; exact h0 q hq a (by omega)
/-- whatever the fuses are: what byLaxity gives is at most 32 -/
theorem d_32 (hn : n ≤ 8) (hR : ∀ k, k < n → X1_reaches rph rgr rca rne rap rle rti (nI k) = wa k) (h32 : ∀ k, k < n → (wa k).toInt ≤ 32) {k : Nat} : ∀ (j q : Nat) (g : AR), q + j = n → (∀ i, i < n → (g i).toInt ≤ 32) → ∀ i, i < n → (X1_byLaxity_L12 rph rgr rca rne rap rle rfu rti n k j q g i).toInt ≤ 32 := by
  intro j; induction j with
  | zero => intro q g _ h; exact h
  | succ j ih =>
    intro q g hq h
    have h3 := h32 q (by omega)
    rw [X1_byLaxity_L12, hR q (by omega), ck (by omega)]
    have hu : ∀ v : Int32, v.toInt ≤ 32 → ∀ i, i < n → (upd g q v i).toInt ≤ 32 := fun v hv i hi => by
      unfold upd; split
      · exact hv
      · exact h i hi
    split
    · exact ih _ _ (by omega) h
    · split
      · split
        · exact ih _ _ (by omega) (hu _ h3)
        · rename_i c; rw [i_le] at c; exact ih _ _ (by omega) (hu _ (by omega))
      · exact ih _ _ (by omega) h
theorem dist_32 (hn : n ≤ 8) (hR : ∀ k, k < n → X1_reaches rph rgr rca rne rap rle rti (nI k) = wa k) (h32 : ∀ k, k < n → (wa k).toInt ≤ 32) : ∀ (j k : Nat) (g : AR), (∀ i, i < n → (g i).toInt ≤ 32) → ∀ i, i < n → (X1_byLaxity_L2 rph rgr rca rne rap rle rfu rti n j k g i).toInt ≤ 32 := by
  intro j; induction j with
  | zero => intro k g h; exact h
  | succ j ih => intro k g h; rw [X1_byLaxity_L2]; exact ih _ _ (d_32 hn hR h32 n 0 g (by omega) h)
end
