def sF (F : Nat → Int) : Nat → Nat → Int
  | 0, _ => 0
  | j + 1, k => F k + sF F j (k + 1)
theorem sF_congr {F G : Nat → Int} : ∀ (j k : Nat), (∀ i, k ≤ i → i < k + j → F i = G i) → sF F j k = sF G j k := by
  intro j; induction j with
  | zero => intro k _; rfl
  | succ j ih => intro k h; rw [sF, sF, h k (by omega) (by omega), ih (k + 1) (fun i a b => h i (by omega) (by omega))]
theorem sF_le {F G : Nat → Int} : ∀ (j k : Nat), (∀ i, k ≤ i → i < k + j → F i ≤ G i) → sF F j k ≤ sF G j k := by
  intro j; induction j with
  | zero => intro k _; exact Int.le_refl _
  | succ j ih =>
    intro k h
    have h1 := h k (by omega) (by omega)
    have h2 := ih (k + 1) (fun i a b => h i (by omega) (by omega))
    rw [sF, sF]; omega
theorem sF_lin {F G : Nat → Int} {c : Int} : ∀ (j k : Nat), sF (fun i => F i + c * G i) j k = sF F j k + c * sF G j k := by
  intro j; induction j with
  | zero => intro k; rw [sF, sF, sF]; omega
  | succ j ih => intro k; rw [sF, sF, sF, ih, Int.mul_add]; omega
theorem sF_one {F G : Nat → Int} {q : Nat} : ∀ (j k : Nat), k ≤ q → q < k + j → (∀ i, k ≤ i → i < k + j → i ≠ q → F i = G i) → sF G j k = sF F j k + (G q - F q) := by
  intro j; induction j with
  | zero => intro k h1 h2; omega
  | succ j ih =>
    intro k h1 h2 h
    rw [sF, sF]
    by_cases e : k = q
    · subst e
      rw [sF_congr (F := F) (G := G) j (k + 1) (fun i a b => h i (by omega) (by omega) (by omega))]; omega
    · rw [ih (k + 1) (by omega) (by omega) (fun i a b c => h i (by omega) (by omega) c), h k (by omega) (by omega) e]; omega
theorem sF_bnd {F : Nat → Int} {b : Nat} : ∀ (j k : Nat), (∀ i, k ≤ i → i < k + j → 0 ≤ F i ∧ F i ≤ b) → 0 ≤ sF F j k ∧ sF F j k ≤ ((b * j : Nat) : Int) := by
  intro j; induction j with
  | zero => intro k _; rw [sF]; omega
  | succ j ih =>
    intro k h
    have h1 := h k (by omega) (by omega)
    have h2 := ih (k + 1) (fun i a b => h i (by omega) (by omega))
    rw [sF, Nat.mul_add, Nat.mul_one]; omega
theorem i_div {a b : Int32} (h0 : 0 ≤ a.toInt) (h1 : 0 < b.toInt) : (a / b).toInt = a.toInt / b.toInt := by
  have h2 := Int32.toInt_lt a
  have h3 : a.toInt / b.toInt ≤ a.toInt := Int.ediv_le_self _ h0
  have h4 : 0 ≤ a.toInt / b.toInt := Int.ediv_nonneg h0 (by omega)
  rw [Int32.toInt_div, Int.tdiv_eq_ediv_of_nonneg h0, Int.bmod_eq_of_le (by omega) (by omega)]
section
variable {n p : Nat} {rph : AR} {r : Nat → Int}
def lvU (n p : Nat) (rph : AR) (r : Nat → Int) (v : Nat) : Int := sF (fun i => if rph i = nI p then min (v : Int) (r i) else 0) n 0
theorem lvU_bnd {v : Nat} (hv : v ≤ 32) (hr : ∀ i, i < n → 0 ≤ r i ∧ r i ≤ 32) : 0 ≤ lvU n p rph r v ∧ lvU n p rph r v ≤ ((32 * n : Nat) : Int) := by
  refine sF_bnd n 0 (fun i _ hi => ?_)
  have := hr i (by omega)
  split <;> omega
theorem lvU_mono {v w : Nat} (h : v ≤ w) : lvU n p rph r v ≤ lvU n p rph r w := by
  refine sF_le n 0 (fun i _ _ => ?_)
  split <;> omega
theorem lvU_find {fr : Int} (h0 : lvU n p rph r 0 ≤ fr) : ∀ m, fr < lvU n p rph r m → ∃ v, v < m ∧ lvU n p rph r v ≤ fr ∧ fr < lvU n p rph r (v + 1) := by
  intro m; induction m with
  | zero => intro h; omega
  | succ m ih =>
    intro h
    by_cases c : fr < lvU n p rph r m
    · obtain ⟨v, h1, h2⟩ := ih c; exact ⟨v, by omega, h2⟩
    · exact ⟨m, by omega, by omega, h⟩
/-- the greedy walk's: taken out at level k behind q points -/
abbrev lvD (r : Nat → Int) (v k q : Nat) (i : Nat) : Prop := 0 < r i ∧ r i ≤ (v : Int) ∧ (r i < (k : Int) ∨ (r i = (k : Int) ∧ i < q))
def lvL (n p : Nat) (rph : AR) (r : Nat → Int) (v k q : Nat) : Int := sF (fun i => if rph i = nI p ∧ lvD r v k q i then r i else 0) n 0
def lvM (n p : Nat) (rph : AR) (r : Nat → Int) (v k q : Nat) : Int := sF (fun i => if rph i = nI p ∧ 0 < r i ∧ ¬ lvD r v k q i then 1 else 0) n 0
theorem lvL_bnd {v k q : Nat} (hr : ∀ i, i < n → 0 ≤ r i ∧ r i ≤ 32) : 0 ≤ lvL n p rph r v k q ∧ lvL n p rph r v k q ≤ ((32 * n : Nat) : Int) := by
  refine sF_bnd n 0 (fun i _ hi => ?_)
  have := hr i (by omega)
  split <;> omega
theorem lvM_bnd {v k q : Nat} : 0 ≤ lvM n p rph r v k q ∧ lvM n p rph r v k q ≤ ((1 * n : Nat) : Int) := by
  refine sF_bnd n 0 (fun i _ hi => ?_)
  split <;> omega
theorem lv_low {v k q : Nat} (hk : k ≤ v) (hr : ∀ i, i < n → 0 ≤ r i ∧ r i ≤ 32) : lvL n p rph r v k q + k * lvM n p rph r v k q = lvU n p rph r k := by
  rw [lvL, lvM, ← sF_lin, lvU]
  refine sF_congr n 0 (fun i _ hi => ?_)
  have := hr i (by omega)
  try dsimp only
  by_cases a : rph i = nI p
  · by_cases d : lvD r v k q i
    · rw [if_pos ⟨a, d⟩, if_neg (fun c => c.2.2 d), if_pos a]; omega
    · rw [if_neg (fun c => d c.2), if_pos a]
      by_cases z : 0 < r i
      · rw [if_pos ⟨a, z, d⟩]; omega
      · rw [if_neg (fun c => z c.2.1)]; omega
  · rw [if_neg (fun c => a c.1), if_neg (fun c => a c.1), if_neg a]; omega
theorem lv_high {v k q : Nat} (hk : v < k) (hr : ∀ i, i < n → 0 ≤ r i ∧ r i ≤ 32) : lvU n p rph r (v + 1) ≤ lvL n p rph r v k q + k * lvM n p rph r v k q := by
  rw [lvL, lvM, ← sF_lin, lvU]
  refine sF_le n 0 (fun i _ hi => ?_)
  have := hr i (by omega)
  try dsimp only
  by_cases a : rph i = nI p
  · by_cases d : lvD r v k q i
    · rw [if_pos a, if_pos ⟨a, d⟩, if_neg (fun c => c.2.2 d)]; omega
    · rw [if_pos a, if_neg (fun c => d c.2)]
      by_cases z : 0 < r i
      · rw [if_pos ⟨a, z, d⟩]; omega
      · rw [if_neg (fun c => z c.2.1)]; omega
  · rw [if_neg a, if_neg (fun c => a c.1), if_neg (fun c => a c.1)]; omega
theorem lv_same {v k q k2 q2 : Nat} (h : ∀ i, i < n → rph i = nI p → (lvD r v k q i ↔ lvD r v k2 q2 i)) : lvL n p rph r v k2 q2 = lvL n p rph r v k q ∧ lvM n p rph r v k2 q2 = lvM n p rph r v k q := by
  refine ⟨Eq.symm (sF_congr n 0 (fun i _ hi => ?_)), Eq.symm (sF_congr n 0 (fun i _ hi => ?_))⟩
  · by_cases a : rph i = nI p
    · have := h i (by omega) a
      by_cases d : lvD r v k q i
      · rw [if_pos ⟨a, d⟩, if_pos ⟨a, this.mp d⟩]
      · rw [if_neg (fun c => d c.2), if_neg (fun c => d (this.mpr c.2))]
    · rw [if_neg (fun c => a c.1), if_neg (fun c => a c.1)]
  · by_cases a : rph i = nI p
    · have := h i (by omega) a
      by_cases d : lvD r v k q i
      · rw [if_neg (fun c => c.2.2 d), if_neg (fun c => c.2.2 (this.mp d))]
      · by_cases z : 0 < r i
        · rw [if_pos ⟨a, z, d⟩, if_pos ⟨a, z, fun c => d (this.mpr c)⟩]
        · rw [if_neg (fun c => z c.2.1), if_neg (fun c => z c.2.1)]
    · rw [if_neg (fun c => a c.1), if_neg (fun c => a c.1)]
theorem lv_take {v k q : Nat} (h1 : 1 ≤ k) (hk : k ≤ v) (hq : q < n) (ha : rph q = nI p) (hrq : r q = k) : lvL n p rph r v k (q + 1) = lvL n p rph r v k q + k ∧ lvM n p rph r v k (q + 1) = lvM n p rph r v k q - 1 := by
  have dq : lvD r v k (q + 1) q := by refine ⟨by omega, by omega, Or.inr ⟨hrq, by omega⟩⟩
  have nq : ¬ lvD r v k q q := fun c => by obtain ⟨-, -, c⟩ := c; omega
  have eq : ∀ i, i ≠ q → (lvD r v k q i ↔ lvD r v k (q + 1) i) := fun i e => by constructor <;> (rintro ⟨a, b, c⟩; exact ⟨a, b, by omega⟩)
  refine ⟨?_, ?_⟩
  · rw [lvL, lvL, sF_one (F := fun i => if rph i = nI p ∧ lvD r v k q i then r i else 0) (q := q) n 0 (by omega) (by omega) (fun i _ hi e => ?_)]
    · rw [if_pos ⟨ha, dq⟩, if_neg (fun c => nq c.2)]; omega
    · have := eq i e
      by_cases d : rph i = nI p ∧ lvD r v k q i
      · rw [if_pos d, if_pos ⟨d.1, this.mp d.2⟩]
      · rw [if_neg d, if_neg (fun c => d ⟨c.1, this.mpr c.2⟩)]
  · rw [lvM, lvM, sF_one (F := fun i => if rph i = nI p ∧ 0 < r i ∧ ¬ lvD r v k q i then 1 else 0) (q := q) n 0 (by omega) (by omega) (fun i _ hi e => ?_)]
    · rw [if_neg (fun c => c.2.2 dq), if_pos ⟨ha, by omega, nq⟩]; omega
    · have := eq i e
      by_cases d : rph i = nI p ∧ 0 < r i ∧ ¬ lvD r v k q i
      · rw [if_pos d, if_pos ⟨d.1, d.2.1, fun c => d.2.2 (this.mpr c)⟩]
      · rw [if_neg d, if_neg (fun c => d ⟨c.1, c.2.1, fun x => c.2.2 (this.mp x)⟩)]
theorem lv_end {v : Nat} (hr : ∀ i, i < n → 0 ≤ r i ∧ r i ≤ 32) : lvM n p rph r v 33 0 = lvU n p rph r (v + 1) - lvU n p rph r v ∧ lvL n p rph r v 33 0 + v * lvM n p rph r v 33 0 = lvU n p rph r v := by
  have dd : ∀ i, i < n → (lvD r v 33 0 i ↔ (0 < r i ∧ r i ≤ (v : Int))) := fun i hi => by
    have := hr i hi
    exact ⟨fun h => ⟨h.1, h.2.1⟩, fun h => ⟨h.1, h.2, Or.inl (by omega)⟩⟩
  have e2 : lvL n p rph r v 33 0 + v * lvM n p rph r v 33 0 = lvU n p rph r v := by
    rw [lvL, lvM, ← sF_lin, lvU]
    refine sF_congr n 0 (fun i _ hi => ?_)
    have := hr i (by omega)
    have d1 := dd i (by omega)
    try dsimp only
    by_cases a : rph i = nI p
    · by_cases d : lvD r v 33 0 i
      · rw [if_pos ⟨a, d⟩, if_neg (fun c => c.2.2 d), if_pos a]; have := d1.mp d; omega
      · rw [if_neg (fun c => d c.2), if_pos a]
        by_cases z : 0 < r i
        · rw [if_pos ⟨a, z, d⟩]
          have : ¬ r i ≤ (v : Int) := fun x => d (d1.mpr ⟨z, x⟩)
          omega
        · rw [if_neg (fun c => z c.2.1)]; omega
    · rw [if_neg (fun c => a c.1), if_neg (fun c => a c.1), if_neg a]; omega
  have e1 : lvL n p rph r v 33 0 + ((v + 1 : Nat) : Int) * lvM n p rph r v 33 0 = lvU n p rph r (v + 1) := by
    rw [lvL, lvM, ← sF_lin, lvU]
    refine sF_congr n 0 (fun i _ hi => ?_)
    have := hr i (by omega)
    have d1 := dd i (by omega)
    try dsimp only
    by_cases a : rph i = nI p
    · by_cases d : lvD r v 33 0 i
      · rw [if_pos ⟨a, d⟩, if_neg (fun c => c.2.2 d), if_pos a]; have := d1.mp d; omega
      · rw [if_neg (fun c => d c.2), if_pos a]
        by_cases z : 0 < r i
        · rw [if_pos ⟨a, z, d⟩]
          have : ¬ r i ≤ (v : Int) := fun x => d (d1.mpr ⟨z, x⟩)
          omega
        · rw [if_neg (fun c => z c.2.1)]; omega
    · rw [if_neg (fun c => a c.1), if_neg (fun c => a c.1), if_neg a]; omega
  refine ⟨?_, e2⟩
  have e3 : ((v + 1 : Nat) : Int) * lvM n p rph r v 33 0 = (v : Int) * lvM n p rph r v 33 0 + lvM n p rph r v 33 0 := by
    rw [show ((v + 1 : Nat) : Int) = (v : Int) + 1 by omega, Int.add_mul, Int.one_mul]
  omega
end
