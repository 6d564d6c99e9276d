abbrev at_ (ph : AR) (k p : Nat) : Prop := ph k = nI p ∨ ph k = 3
theorem fl_su {rph g : AR} {n : Nat} {f : Int32} (d : Int32) : ∀ (j k : Nat) (su : Int32), X1_flows_L4 rph g n f j k (su + d) = X1_flows_L4 rph g n f j k su + d := by
  intro j; induction j with
  | zero => intro k su; rfl
  | succ j ih =>
    intro k su
    have e : ∀ x : Int32, su + d + x = su + x + d := fun x => by grind
    rw [X1_flows_L4, X1_flows_L4, e, e, ih, ih]
    split
    · rfl
    · split <;> rfl
theorem fl_out {rph g : AR} {n p i : Nat} {v : Int32} : ∀ (j k : Nat) (su : Int32), k + j ≤ 8 → (i < k ∨ k + j ≤ i) → X1_flows_L4 rph (upd g i v) n (nI p) j k su = X1_flows_L4 rph g n (nI p) j k su := by
  intro j; induction j with
  | zero => intro k su _ _; rfl
  | succ j ih =>
    intro k su h8 hi
    have e : upd g i v k = g k := by unfold upd; rw [if_neg (by omega)]
    rw [X1_flows_L4, X1_flows_L4, ck (by omega), e, ih _ _ (by omega) (by omega), ih _ _ (by omega) (by omega)]
theorem fl_in {rph g : AR} {n p i : Nat} {v : Int32} : ∀ (j k : Nat) (su : Int32), k + j ≤ 8 → k ≤ i → i < k + j → X1_flows_L4 rph (upd g i v) n (nI p) j k su = X1_flows_L4 rph g n (nI p) j k su + (if at_ rph i p then v - g i else 0) := by
  intro j; induction j with
  | zero => intro k su _ h1 h2; omega
  | succ j ih =>
    intro k su h8 h1 h2
    by_cases hk : k = i
    · subst hk
      have e : upd g k v k = v := by unfold upd; rw [if_pos rfl]
      rw [X1_flows_L4, X1_flows_L4, ck (by omega), e, fl_out _ _ _ (by omega) (by omega), fl_out _ _ _ (by omega) (by omega)]
      have e1 : su + v = su + g k + (v - g k) := by grind
      have e2 : ∀ x : Int32, x + 0 = x := fun x => by grind
      by_cases a1 : rph k = nI p
      · rw [if_pos a1, if_pos a1, if_pos (Or.inl a1), e1, fl_su]
      · by_cases a2 : rph k = 3
        · rw [if_neg a1, if_neg a1, if_pos a2, if_pos a2, if_pos (Or.inr a2), e1, fl_su]
        · rw [if_neg a1, if_neg a1, if_neg a2, if_neg a2, if_neg (fun c => c.elim a1 a2), fl_su, e2, e2]
    · have e : upd g i v k = g k := by unfold upd; rw [if_neg (by omega)]
      rw [X1_flows_L4, X1_flows_L4, ck (by omega), e, ih _ _ (by omega) (by omega) (by omega), ih _ _ (by omega) (by omega) (by omega)]
      split
      · rfl
      · split <;> rfl
theorem flows_upd {rph g : AR} {n p i : Nat} {v : Int32} (hn : n ≤ 8) (hi : i < n) : X1_flows rph (upd g i v) n (nI p) = X1_flows rph g n (nI p) + (if at_ rph i p then v - g i else 0) := by
  rw [X1_flows, X1_flows]; exact fl_in n 0 0 (by omega) (by omega) (by omega)
theorem isAt_at {ph : AR} {i p : Nat} (hi : i < 8) : (¬ X0_isAt ph (nI i) (nI p) = 0) ↔ at_ ph i p := by
  rw [X0_isAt, ck hi]; unfold at_
  have n1 : ¬ (1 : Int32) = 0 := by decide
  by_cases a : ph i = nI p
  · simp [a]
  · by_cases b : ph i = 3 <;> simp [a, b]
theorem give_lo {ph : AR} {i : Nat} {x : Int32} (hi : i < 8) : ∀ (j k : Nat) (lo : AR) (p : Nat), k + j ≤ 3 → X0_give_L12 ph (nI i) x j k lo p = if k ≤ p ∧ p < k + j ∧ at_ ph i p then lo p + x else lo p := by
  intro j; induction j with
  | zero => intro k lo p h; rw [X0_give_L12, if_neg (by omega)]
  | succ j ih =>
    intro k lo p h
    rw [X0_give_L12, ck (by omega)]
    have hk := isAt_at (ph := ph) (p := k) hi
    by_cases a : X0_isAt ph (nI i) (nI k) = 0
    · rw [if_pos a, ih _ _ _ (by omega)]
      have na : ¬ at_ ph i k := fun c => hk.mpr c a
      by_cases e : k = p
      · subst e; rw [if_neg (by omega), if_neg (fun c => na c.2.2)]
      · by_cases c : k + 1 ≤ p ∧ p < k + 1 + j ∧ at_ ph i p
        · rw [if_pos c, if_pos ⟨by omega, by omega, c.2.2⟩]
        · rw [if_neg c, if_neg (fun d => c ⟨by omega, by omega, d.2.2⟩)]
    · rw [if_neg a, ih _ _ _ (by omega)]
      have na : at_ ph i k := hk.mp a
      by_cases e : k = p
      · subst e; rw [if_neg (by omega), if_pos ⟨by omega, by omega, na⟩]; unfold upd; rw [if_pos rfl]
      · have e2 : upd lo k (lo k + x) p = lo p := by unfold upd; rw [if_neg (by omega)]
        rw [e2]
        by_cases c : k + 1 ≤ p ∧ p < k + 1 + j ∧ at_ ph i p
        · rw [if_pos c, if_pos ⟨by omega, by omega, c.2.2⟩]
        · rw [if_neg c, if_neg (fun d => c ⟨by omega, by omega, d.2.2⟩)]
/-- the park's currents and loads, and the model's currents -/
def SR (n : Nat) (rph gi lo gj : AR) : Prop := (∀ k, k < n → gi k = gj k) ∧ ∀ p, p < 3 → lo p = X1_flows rph gj n (nI p)
theorem SR_give {n i : Nat} {qph rph gi lo gj : AR} {x v : Int32} (hn : n ≤ 8) (hi : i < n) (hph : rph i = qph i) (h : SR n rph gi lo gj) (hv : v = gj i + x) : SR n rph (X0_give qph gi lo (nI i) x).1 (X0_give qph gi lo (nI i) x).2 (upd gj i v) := by
  refine ⟨fun k hk => ?_, fun p hp => ?_⟩
  · rw [X0_give, ck (by omega)]
    show upd gi i (gi i + x) k = upd gj i v k
    unfold upd
    by_cases e : k = i
    · rw [if_pos e, if_pos e, hv, h.1 i hi]
    · rw [if_neg e, if_neg e, h.1 k hk]
  · rw [flows_upd hn hi, X0_give]
    show X0_give_L12 qph (nI i) x 3 0 lo p = _
    rw [give_lo (by omega) 3 0 lo p (by omega), ← h.2 p hp]
    have e : at_ qph i p ↔ at_ rph i p := by unfold at_; rw [hph]
    by_cases a : at_ rph i p
    · rw [if_pos a, if_pos ⟨by omega, by omega, e.mpr a⟩, hv]; grind
    · rw [if_neg a, if_neg (fun c => a (e.mp c.2.2))]; grind
theorem SR_room {n i : Nat} {qph rph qfu rfu gi lo gj : AR} (hi : i < 8) (hph : rph i = qph i) (hfu : ∀ p, p < 3 → rfu p = qfu p) (h : SR n rph gi lo gj) : ∀ (j k : Nat) (ro : Int32), k + j ≤ 3 → X0_roomFor_L5 qph qfu lo (nI i) j k ro = X1_room_L5 rph rfu gj n (nI i) j k ro := by
  intro j; induction j with
  | zero => intro k ro _; rfl
  | succ j ih =>
    intro k ro hk
    have hq := isAt_at (ph := qph) (p := k) hi
    have e : at_ qph i k ↔ at_ rph i k := by unfold at_; rw [hph]
    rw [X0_roomFor_L5, X1_room_L5, ck (by omega : k < 8), ck hi, ← h.2 k (by omega), hfu k (by omega), ih _ _ (by omega), ih _ _ (by omega)]
    have e1 : (if qfu k - lo k < ro then qfu k - lo k else ro) = (if ro ≤ qfu k - lo k then ro else qfu k - lo k) := by grind
    rw [e1]
    by_cases a : X0_isAt qph (nI i) (nI k) = 0
    · have na : ¬ at_ rph i k := fun c => hq.mpr (e.mpr c) a
      rw [if_pos a, if_neg (fun c => na (Or.inl c)), if_neg (fun c => na (Or.inr c))]
    · have na : at_ rph i k := e.mp (hq.mp a)
      rw [if_neg a]
      by_cases b : rph i = nI k
      · rw [if_pos b]; split <;> rfl
      · rw [if_neg b, if_pos (na.resolve_left b)]; split <;> rfl
theorem SR_roomE {n i : Nat} {qph rph qfu rfu gi lo gj : AR} (hi : i < 8) (hph : rph i = qph i) (hfu : ∀ p, p < 3 → rfu p = qfu p) (h : SR n rph gi lo gj) : X0_roomFor qph qfu lo (nI i) = X1_room rph rfu gj n (nI i) := SR_room hi hph hfu h 3 0 100 (by omega)
