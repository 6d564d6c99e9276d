theorem room100 {rph rfu g : AR} {n : Nat} {i : Int32} : ∀ (j k : Nat) (le : Int32), X1_room_L5 rph rfu g n i j k le ≤ le := by
  intro j; induction j with
  | zero => intro k le; exact Int32.le_refl le
  | succ j ih =>
    intro k le
    rw [X1_room_L5]
    have h1 := ih (k + 1) le
    have h2 := ih (k + 1) (rfu (nI k).toNatClampNeg - X1_flows rph g n (nI k))
    split
    · split
      · exact h1
      · grind
    · split
      · split
        · exact h1
        · grind
      · exact h1
theorem room_le5 {rph rfu g : AR} {n i p : Nat} (hi : i < 8) (ha : at_ rph i p) : ∀ (j k : Nat) (le : Int32), k + j ≤ 3 → k ≤ p → p < k + j → X1_room_L5 rph rfu g n (nI i) j k le ≤ rfu p - X1_flows rph g n (nI p) := by
  intro j; induction j with
  | zero => intro k le _ _ _; omega
  | succ j ih =>
    intro k le h3 h1 h2
    rw [X1_room_L5, ck hi, ck (by omega : k < 8)]
    by_cases e : k = p
    · subst e
      have h4 := room100 (rph := rph) (rfu := rfu) (g := g) (n := n) (i := nI i) j (k + 1) le
      have h5 := room100 (rph := rph) (rfu := rfu) (g := g) (n := n) (i := nI i) j (k + 1) (rfu k - X1_flows rph g n (nI k))
      by_cases a : rph i = nI k
      · rw [if_pos a]; split
        · grind
        · exact h5
      · rw [if_neg a, if_pos (ha.resolve_left a)]; split
        · grind
        · exact h5
    · have h6 := fun le => ih (k + 1) le (by omega) (by omega) (by omega)
      split
      · split <;> exact h6 _
      · split
        · split <;> exact h6 _
        · exact h6 _
theorem room_ge5 {rph rfu g : AR} {n i : Nat} {m : Int32} (hi : i < 8) (hm : ∀ p, p < 3 → at_ rph i p → m ≤ rfu p - X1_flows rph g n (nI p)) : ∀ (j k : Nat) (le : Int32), k + j ≤ 3 → m ≤ le → m ≤ X1_room_L5 rph rfu g n (nI i) j k le := by
  intro j; induction j with
  | zero => intro k le _ h; exact h
  | succ j ih =>
    intro k le h3 h1
    rw [X1_room_L5, ck hi, ck (by omega : k < 8)]
    by_cases a : rph i = nI k
    · rw [if_pos a]; split
      · exact ih _ _ (by omega) h1
      · exact ih _ _ (by omega) (hm k (by omega) (Or.inl a))
    · rw [if_neg a]; by_cases b : rph i = 3
      · rw [if_pos b]; split
        · exact ih _ _ (by omega) h1
        · exact ih _ _ (by omega) (hm k (by omega) (Or.inr b))
      · rw [if_neg b]; exact ih _ _ (by omega) h1
theorem room_le {rph rfu g : AR} {n i p : Nat} (hi : i < 8) (hp : p < 3) (ha : at_ rph i p) : X1_room rph rfu g n (nI i) ≤ rfu p - X1_flows rph g n (nI p) := room_le5 hi ha 3 0 100 (by omega) (by omega) (by omega)
theorem room_ge {rph rfu g : AR} {n i : Nat} {m : Int32} (hi : i < 8) (h1 : m ≤ 100) (hm : ∀ p, p < 3 → at_ rph i p → m ≤ rfu p - X1_flows rph g n (nI p)) : m ≤ X1_room rph rfu g n (nI i) := room_ge5 hi hm 3 0 100 (by omega) h1
/-- the loads lie within the fuses -/
def LF (n : Nat) (rph rfu g : AR) : Prop := ∀ p, p < 3 → 0 ≤ (X1_flows rph g n (nI p)).toInt ∧ (X1_flows rph g n (nI p)).toInt ≤ (rfu p).toInt
theorem LF_room {n i : Nat} {rph rfu g : AR} (hi : i < 8) (hfu : ∀ p, p < 3 → 0 ≤ (rfu p).toInt ∧ (rfu p).toInt ≤ 100) (h : LF n rph rfu g) : 0 ≤ X1_room rph rfu g n (nI i) := by
  refine room_ge hi (by decide) (fun p hp _ => ?_)
  have h1 := h p hp
  have h2 := hfu p hp
  rw [i_le, i_0, i_sub (by omega) (by omega)]; omega
/-- what is given within the room: the loads stay within the fuses -/
theorem LF_upd {n i : Nat} {rph rfu g : AR} {v : Int32} (hn : n ≤ 8) (hi : i < n) (hfu : ∀ p, p < 3 → 0 ≤ (rfu p).toInt ∧ (rfu p).toInt ≤ 100) (h : LF n rph rfu g) (h0 : 0 ≤ v - g i) (h1 : v - g i ≤ X1_room rph rfu g n (nI i)) : LF n rph rfu (upd g i v) ∧ ∀ p, p < 3 → (X1_flows rph g n (nI p)).toInt ≤ (X1_flows rph (upd g i v) n (nI p)).toInt := by
  have key : ∀ p, p < 3 → (0 ≤ (X1_flows rph (upd g i v) n (nI p)).toInt ∧ (X1_flows rph (upd g i v) n (nI p)).toInt ≤ (rfu p).toInt) ∧ (X1_flows rph g n (nI p)).toInt ≤ (X1_flows rph (upd g i v) n (nI p)).toInt := by
    intro p hp
    have h2 := h p hp
    have h3 := hfu p hp
    rw [flows_upd hn hi]
    by_cases a : at_ rph i p
    · rw [if_pos a]
      have h4 := room_le (rfu := rfu) (g := g) (n := n) (by omega) hp a
      have h5 : v - g i ≤ rfu p - X1_flows rph g n (nI p) := Int32.le_trans h1 h4
      rw [i_le, i_sub (a := rfu p) (by omega) (by omega)] at h5
      rw [i_le, i_0] at h0
      rw [i_add (by omega) (by omega)]; omega
    · rw [if_neg a, i_add (by rw [i_0]; omega) (by rw [i_0]; omega), i_0]; omega
  exact ⟨fun p hp => (key p hp).1, fun p hp => (key p hp).2⟩
theorem room_mono {n i : Nat} {rph rfu g g2 : AR} (hi : i < 8) (hfu : ∀ p, p < 3 → 0 ≤ (rfu p).toInt ∧ (rfu p).toInt ≤ 100) (h : LF n rph rfu g) (h2 : LF n rph rfu g2) (hm : ∀ p, p < 3 → (X1_flows rph g n (nI p)).toInt ≤ (X1_flows rph g2 n (nI p)).toInt) : X1_room rph rfu g2 n (nI i) ≤ X1_room rph rfu g n (nI i) := by
  refine room_ge hi (room100 3 0 100) (fun p hp a => ?_)
  have e := room_le (rfu := rfu) (g := g2) (n := n) hi hp a
  have h3 := h p hp; have h4 := h2 p hp; have h5 := hfu p hp; have h6 := hm p hp
  rw [i_le, i_sub (a := rfu p) (by omega) (by omega)] at e
  rw [i_le, i_sub (by omega) (by omega)]; omega
theorem nar0 : vp_nar .boolean 0 = 0 := by decide
theorem nar1 : vp_nar .boolean 1 = 1 := by decide
section
variable {n : Nat} {rph rgr rca rne rap rle rfu : AR} {rti : Int32} {wa : AR}
/-- one point of a round of the model's -/
theorem fair_step (hR : ∀ k, k < n → X1_reaches rph rgr rca rne rap rle rti (nI k) = wa k) {j k : Nat} {ms : Int32} {g pa : AR} (hk : k < n) (h8 : k < 8) : X1_fairly_L10 rph rgr rca rne rap rle rfu rti n (j + 1) k ms g pa = (if wa k ≤ g k then X1_fairly_L10 rph rgr rca rne rap rle rfu rti n j (k + 1) ms g pa else (if pa k = 0 then (if 1 ≤ X1_room rph rfu g n (nI k) then X1_fairly_L10 rph rgr rca rne rap rle rfu rti n j (k + 1) (ms ||| 1) (upd g k (g k + 1)) (upd pa k 0) else X1_fairly_L10 rph rgr rca rne rap rle rfu rti n j (k + 1) ms (upd g k (g k)) (upd pa k 1)) else X1_fairly_L10 rph rgr rca rne rap rle rfu rti n j (k + 1) ms g pa)) := by
  have e0 : upd pa k 0 k = 0 := by unfold upd; rw [if_pos rfl]
  have e1 : ¬ upd pa k 1 k = 0 := by unfold upd; rw [if_pos rfl]; decide
  have e2 : ms ||| 0 = ms := Int32.or_zero
  have e3 : g k + 0 = g k := by grind
  rw [X1_fairly_L10, ck h8, hR k hk, nar0, nar1, if_pos e0, if_neg e1, e2, e3]
/-- each point: it has what it wants, or it is passed, or it has had r rounds -/
def Inv (n : Nat) (wa g pa : AR) (r : Nat) (k0 : Nat) : Prop := ∀ k, k < n → wa k ≤ g k ∨ ¬ pa k = 0 ∨ ((r : Int) + (if k < k0 then 1 else 0) ≤ (g k).toInt)
theorem fair_inv (hn : n ≤ 8) (hR : ∀ k, k < n → X1_reaches rph rgr rca rne rap rle rti (nI k) = wa k) (h32 : ∀ k, k < n → (wa k).toInt ≤ 32) {r : Nat} : ∀ (j k : Nat) (ms : Int32) (g pa : AR), k + j = n → Inv n wa g pa r k → Inv n wa (X1_fairly_L10 rph rgr rca rne rap rle rfu rti n j k ms g pa).2.1 (X1_fairly_L10 rph rgr rca rne rap rle rfu rti n j k ms g pa).2.2 r n := by
  intro j; induction j with
  | zero => intro k ms g pa hk h; rw [show k = n by omega] at h; exact h
  | succ j ih =>
    intro k ms g pa hk h
    rw [fair_step hR (by omega) (by omega)]
    have hh := h k (by omega)
    rw [if_neg (by omega)] at hh
    have up : ∀ {g' pa' : AR}, (∀ q, q < n → q ≠ k → g' q = g q ∧ pa' q = pa q) → (wa k ≤ g' k ∨ ¬ pa' k = 0 ∨ ((r : Int) + 1 ≤ (g' k).toInt)) → Inv n wa g' pa' r (k + 1) := by
      intro g' pa' h1 h2 q hq
      by_cases e : q = k
      · subst e; rw [if_pos (by omega)]; exact h2
      · have h3 := h q hq
        rw [(h1 q hq e).1, (h1 q hq e).2]
        rcases h3 with a | a | a
        · exact Or.inl a
        · exact Or.inr (Or.inl a)
        · refine Or.inr (Or.inr ?_)
          split <;> split at a <;> omega
    have un : ∀ {f : AR} {v : Int32} (q : Nat), q ≠ k → upd f k v q = f q := fun q e => by unfold upd; rw [if_neg e]
    have uk : ∀ {f : AR} {v : Int32}, upd f k v k = v := by intro f v; unfold upd; rw [if_pos rfl]
    by_cases c1 : wa k ≤ g k
    · rw [if_pos c1]; exact ih _ _ _ _ (by omega) (up (fun q _ _ => ⟨rfl, rfl⟩) (Or.inl c1))
    · rw [if_neg c1]
      by_cases c2 : pa k = 0
      · rw [if_pos c2]
        split
        · refine ih _ _ _ _ (by omega) (up (fun q _ e => ⟨un q e, un q e⟩) (Or.inr (Or.inr ?_)))
          have h4 := h32 k (by omega)
          have h5 := Int32.le_toInt (g k)
          have h6 : (g k).toInt < (wa k).toInt := by rw [i_le] at c1; omega
          rw [uk, i_add (by rw [i_1]; omega) (by rw [i_1]; omega), i_1]
          rcases hh with a | a | a
          · exact absurd a c1
          · exact absurd c2 a
          · omega
        · exact ih _ _ _ _ (by omega) (up (fun q _ e => ⟨un q e, un q e⟩) (Or.inr (Or.inl (by rw [uk]; decide))))
      · rw [if_neg c2]; exact ih _ _ _ _ (by omega) (up (fun q _ _ => ⟨rfl, rfl⟩) (Or.inr (Or.inl c2)))
/-- where each point has what it wants or is passed, a round changes nothing -/
theorem fair_done (hn : n ≤ 8) (hR : ∀ k, k < n → X1_reaches rph rgr rca rne rap rle rti (nI k) = wa k) {g pa : AR} (h : ∀ k, k < n → wa k ≤ g k ∨ ¬ pa k = 0) : ∀ (j k : Nat) (ms : Int32), k + j = n → X1_fairly_L10 rph rgr rca rne rap rle rfu rti n j k ms g pa = (ms, g, pa) := by
  intro j; induction j with
  | zero => intro k ms _; rfl
  | succ j ih =>
    intro k ms hk
    rw [fair_step hR (by omega) (by omega)]
    rcases h k (by omega) with a | a
    · rw [if_pos a]; exact ih _ _ (by omega)
    · by_cases c1 : wa k ≤ g k
      · rw [if_pos c1]; exact ih _ _ (by omega)
      · rw [if_neg c1, if_neg a]; exact ih _ _ (by omega)
theorem Inv_32 (h32 : ∀ k, k < n → (wa k).toInt ≤ 32) {g pa : AR} {r : Nat} (hr : 32 ≤ r) (h : Inv n wa g pa r 0) : ∀ k, k < n → wa k ≤ g k ∨ ¬ pa k = 0 := by
  intro k hk
  rcases h k hk with a | a | a
  · exact Or.inl a
  · exact Or.inr a
  · rw [if_neg (by omega)] at a
    have := h32 k hk
    exact Or.inl (by rw [i_le]; omega)
theorem Inv_next {g pa : AR} {r : Nat} (h : Inv n wa g pa r n) : Inv n wa g pa (r + 1) 0 := by
  intro k hk
  have := h k hk
  rw [if_pos hk] at this
  rw [if_neg (by omega)]
  rcases this with a | a | a
  · exact Or.inl a
  · exact Or.inr (Or.inl a)
  · exact Or.inr (Or.inr (by omega))
theorem fair_T (hn : n ≤ 8) (hR : ∀ k, k < n → X1_reaches rph rgr rca rne rap rle rti (nI k) = wa k) (h32 : ∀ k, k < n → (wa k).toInt ≤ 32) : ∀ (j : Nat) (mr : Int32) (g pa : AR) (r : Nat), 34 ≤ r + j → 2 ≤ j → Inv n wa g pa r 0 → X1_fairly_L2_T rph rgr rca rne rap rle rfu rti n j mr g pa := by
  intro j; induction j with
  | zero => intro mr g pa r _ h; omega
  | succ j ih =>
    intro mr g pa r h34 h2 h
    rw [X1_fairly_L2_T]
    split
    · trivial
    · by_cases h3 : 32 ≤ r
      · rw [fair_done hn hR (Inv_32 h32 h3 h) n 0 0 (by omega)]
        obtain ⟨j2, rfl⟩ : ∃ j2, j = j2 + 1 := ⟨j - 1, by omega⟩
        rw [X1_fairly_L2_T, if_pos rfl]; trivial
      · exact ih _ _ _ (r + 1) (by omega) (by omega) (Inv_next (fair_inv hn hR h32 n 0 0 g pa (by omega) h))
end
