/-- k is wanted for and goes before i -/
abbrev bf (wa lx : AR) (k i : Nat) : Prop := ¬ wa k ≤ 0 ∧ (lx k < lx i ∨ (lx k = lx i ∧ k < i))
def cnt (wa lx : AR) (i : Nat) : Nat → Nat
  | 0 => 0
  | m + 1 => cnt wa lx i m + (if bf wa lx m i then 1 else 0)
def actc (wa : AR) : Nat → Nat
  | 0 => 0
  | m + 1 => actc wa m + (if wa m ≤ 0 then 0 else 1)
theorem actc_le {wa : AR} : ∀ m, actc wa m ≤ m := by
  intro m; induction m with
  | zero => exact Nat.le_refl _
  | succ m ih => rw [actc]; split <;> omega
theorem cnt_act {wa lx : AR} {i : Nat} : ∀ m, cnt wa lx i m ≤ actc wa m := by
  intro m; induction m with
  | zero => exact Nat.le_refl _
  | succ m ih =>
    rw [cnt, actc]
    by_cases a : wa m ≤ 0
    · rw [if_pos a, if_neg (fun c => c.1 a)]; omega
    · rw [if_neg a]; split <;> omega
theorem bf_trans {wa lx : AR} {q a b : Nat} (h1 : bf wa lx q a) (h2 : bf wa lx a b) : bf wa lx q b := by
  obtain ⟨a1, a2⟩ := h1
  obtain ⟨b1, b2⟩ := h2
  refine ⟨a1, ?_⟩
  rcases a2 with h | ⟨h, h'⟩ <;> rcases b2 with g | ⟨g, g'⟩
  · exact Or.inl (Int32.lt_trans h g)
  · exact Or.inl (by rw [← g]; exact h)
  · exact Or.inl (by rw [h]; exact g)
  · exact Or.inr ⟨h.trans g, by omega⟩
theorem cnt_mono {wa lx : AR} {a b : Nat} (h : bf wa lx a b) : ∀ m, cnt wa lx a m ≤ cnt wa lx b m := by
  intro m; induction m with
  | zero => exact Nat.le_refl _
  | succ m ih =>
    rw [cnt, cnt]
    by_cases c : bf wa lx m a
    · rw [if_pos c, if_pos (bf_trans c h)]; omega
    · rw [if_neg c]; split <;> omega
theorem bf_irr {wa lx : AR} {a : Nat} : ¬ bf wa lx a a := by
  rintro ⟨-, h | h⟩
  · exact absurd h (Int32.lt_irrefl)
  · omega
theorem cnt_lt {wa lx : AR} {a b : Nat} (h : bf wa lx a b) : ∀ m, a < m → cnt wa lx a m < cnt wa lx b m := by
  intro m; induction m with
  | zero => intro c; omega
  | succ m ih =>
    intro c
    rw [cnt, cnt]
    by_cases e : a = m
    · subst e
      rw [if_neg bf_irr, if_pos h]
      have := cnt_mono h a
      omega
    · have := ih (by omega)
      by_cases c : bf wa lx m a
      · rw [if_pos c, if_pos (bf_trans c h)]; omega
      · rw [if_neg c]; split <;> omega
theorem bf_total {wa lx : AR} {a b : Nat} (ha : ¬ wa a ≤ 0) (hb : ¬ wa b ≤ 0) (h : a ≠ b) : bf wa lx a b ∨ bf wa lx b a := by
  by_cases c : lx a < lx b
  · exact Or.inl ⟨ha, Or.inl c⟩
  · by_cases d : lx b < lx a
    · exact Or.inr ⟨hb, Or.inl d⟩
    · have e : lx a = lx b := by grind
      by_cases f : a < b
      · exact Or.inl ⟨ha, Or.inr ⟨e, f⟩⟩
      · exact Or.inr ⟨hb, Or.inr ⟨e.symm, by omega⟩⟩
theorem cnt_inj {wa lx : AR} {a b m : Nat} (ha : ¬ wa a ≤ 0) (hb : ¬ wa b ≤ 0) (h1 : a < m) (h2 : b < m) (h : cnt wa lx a m = cnt wa lx b m) : a = b := by
  by_cases e : a = b
  · exact e
  · rcases bf_total (lx := lx) ha hb e with c | c
    · have := cnt_lt c m h1; omega
    · have := cnt_lt c m h2; omega
section
variable {n : Nat} {qph qgr qne qap qle qfu : AR} {qnw : Int32} {wa lx : AR}
/-- the turns behind m points -/
def PT (wa lx : AR) (m w : Nat) (tu : AR) : Prop := w = actc wa m ∧ (∀ i, i < m → ¬ wa i ≤ 0 → cnt wa lx i m < w ∧ tu (cnt wa lx i m) = nI i) ∧ ∀ t, t < w → ∃ i, i < m ∧ ¬ wa i ≤ 0 ∧ cnt wa lx i m = t
theorem ins_loop {i : Int32} {w : Nat} : ∀ (j : Nat) (tu : AR), j ≤ 8 → ∃ (J : Nat) (tu' : AR), X0_putIntoTurns_L9 qph qgr qne qap qle qnw i w j tu = (J, tu') ∧ J ≤ j ∧ (∀ t, t < J → tu' t = tu t) ∧ (∀ t, J < t → t ≤ j → tu' t = tu (t - 1)) ∧ (∀ t, j < t → tu' t = tu t) ∧ (∀ t, J ≤ t → t < j → ¬ X0_laxityAt qph qgr qne qap qle qnw (tu t) ≤ X0_laxityAt qph qgr qne qap qle qnw i) ∧ (0 < J → X0_laxityAt qph qgr qne qap qle qnw (tu (J - 1)) ≤ X0_laxityAt qph qgr qne qap qle qnw i) := by
  intro j; induction j with
  | zero => intro tu _; exact ⟨0, tu, rfl, Nat.le_refl _, fun t _ => rfl, fun t _ _ => by omega, fun t _ => rfl, fun t _ _ => by omega, fun h => by omega⟩
  | succ j ih =>
    intro tu h8
    have e1 : (nI (j + 1) - 1).toNatClampNeg = j := by rw [nI_pred, nI_clamp (by omega)]
    have e2 : (nI (j + 1)).toNatClampNeg = j + 1 := nI_clamp (by omega)
    rw [X0_putIntoTurns_L9, e1, e2]
    by_cases c : X0_laxityAt qph qgr qne qap qle qnw (tu j) ≤ X0_laxityAt qph qgr qne qap qle qnw i
    · rw [if_pos c]
      exact ⟨j + 1, tu, rfl, Nat.le_refl _, fun t _ => rfl, fun t _ _ => by omega, fun t _ => rfl, fun t _ _ => by omega, fun _ => c⟩
    · rw [if_neg c]
      obtain ⟨J, tu', h1, h2, h3, h4, h5, h6, h7⟩ := ih (upd tu (j + 1) (tu j)) (by omega)
      have un : ∀ t, t ≤ j → upd tu (j + 1) (tu j) t = tu t := fun t h => by unfold upd; rw [if_neg (by omega)]
      refine ⟨J, tu', h1, by omega, fun t h => by rw [h3 t h, un t (by omega)], fun t ha hb => ?_, fun t h => ?_, fun t ha hb => ?_, fun h => ?_⟩
      · by_cases e : t ≤ j
        · rw [h4 t ha e, un _ (by omega)]
        · have e : t = j + 1 := by omega
          rw [e, h5 _ (by omega)]; unfold upd; rw [if_pos rfl]; rfl
      · rw [h5 t (by omega)]; unfold upd; rw [if_neg (by omega)]
      · by_cases e : t < j
        · have := h6 t ha e; rw [un t (by omega)] at this; exact this
        · have e : t = j := by omega
          rw [e]; exact c
      · have := h7 h; rw [un _ (by omega)] at this; exact this
theorem ins_PT {m w : Nat} {tu : AR} (hm : m < 8) (hL : ∀ i, i ≤ m → ¬ wa i ≤ 0 → X0_laxityAt qph qgr qne qap qle qnw (nI i) = lx i) (ha : ¬ wa m ≤ 0) (h : PT wa lx m w tu) : PT wa lx (m + 1) (w + 1) (X0_putIntoTurns qph qgr qne qap qle qnw tu (nI m) w) := by
  obtain ⟨h1, h2, h3⟩ := h
  have hw8 : w ≤ 8 := by rw [h1]; have := actc_le (wa := wa) m; omega
  obtain ⟨J, tu', g1, g2, g3, g4, g5, g6, g7⟩ := ins_loop (qph := qph) (qgr := qgr) (qne := qne) (qap := qap) (qle := qle) (qnw := qnw) (i := nI m) (w := w) w tu hw8
  rw [X0_putIntoTurns, g1]
  dsimp only
  rw [nI_clamp (by omega)]
  rw [hL m (Nat.le_refl _) ha] at g6 g7
  have hv : ∀ t, t < w → ∃ i, i < m ∧ ¬ wa i ≤ 0 ∧ cnt wa lx i m = t ∧ tu t = nI i ∧ X0_laxityAt qph qgr qne qap qle qnw (tu t) = lx i := by
    intro t ht
    obtain ⟨i, a, b, c⟩ := h3 t ht
    have d := (h2 i a b).2
    rw [c] at d
    exact ⟨i, a, b, c, d, by rw [d]; exact hL i (by omega) b⟩
  have lo : ∀ i, i < m → ¬ wa i ≤ 0 → bf wa lx m i → J ≤ cnt wa lx i m := by
    intro i a b c
    rcases Nat.lt_or_ge (cnt wa lx i m) J with d | d
    · obtain ⟨i2, a2, b2, c2, d2, e2⟩ := hv (J - 1) (by omega)
      have f := g7 (by omega)
      rw [e2] at f
      have z : lx m < lx i := by
        rcases c.2 with x | x
        · exact x
        · omega
      have k : bf wa lx i2 i := ⟨b2, Or.inl (Int32.lt_of_le_of_lt f z)⟩
      have := cnt_lt k m a2
      omega
    · exact d
  have hi : ∀ i, i < m → ¬ wa i ≤ 0 → ¬ bf wa lx m i → cnt wa lx i m < J := by
    intro i a b c
    rcases Nat.lt_or_ge (cnt wa lx i m) J with d | d
    · exact d
    · exfalso
      have e := g6 _ d (h2 i a b).1
      rw [(h2 i a b).2, hL i (by omega) b] at e
      exact c ⟨ha, Or.inl (by grind)⟩
  have cm : cnt wa lx m m = J := by
    have l1 : J ≤ cnt wa lx m m := by
      rcases Nat.eq_zero_or_pos J with z | z
      · omega
      · obtain ⟨i2, a2, b2, c2, d2, e2⟩ := hv (J - 1) (by omega)
        have f := g7 z
        rw [e2] at f
        have k : bf wa lx i2 m := ⟨b2, by
          by_cases x : lx i2 < lx m
          · exact Or.inl x
          · exact Or.inr ⟨by grind, a2⟩⟩
        have := cnt_lt k m a2
        omega
    have l2 : cnt wa lx m m ≤ J := by
      rcases Nat.lt_or_ge J w with z | z
      · obtain ⟨i2, a2, b2, c2, d2, e2⟩ := hv J z
        have f := g6 J (Nat.le_refl _) z
        rw [e2] at f
        have := cnt_mono (wa := wa) (lx := lx) (a := m) (b := i2) ⟨ha, Or.inl (by grind)⟩ m
        omega
      · have := cnt_act (wa := wa) (lx := lx) (i := m) m
        omega
    omega
  have un : ∀ t, t ≠ J → upd tu' J (nI m) t = tu' t := fun t e => by unfold upd; rw [if_neg e]
  refine ⟨by rw [actc, if_neg ha, h1], fun i hi' a => ?_, fun t ht => ?_⟩
  · by_cases e : i = m
    · subst e
      rw [cnt, if_neg bf_irr, cm, Nat.add_zero]
      exact ⟨by omega, by unfold upd; rw [if_pos rfl]⟩
    · have q := h2 i (by omega) a
      rw [cnt]
      by_cases c : bf wa lx m i
      · have l := lo i (by omega) a c
        rw [if_pos c, un _ (by omega), g4 _ (by omega) (by omega)]
        exact ⟨by omega, q.2⟩
      · have l := hi i (by omega) a c
        rw [if_neg c, Nat.add_zero, un _ (by omega), g3 _ l]
        exact ⟨by omega, q.2⟩
  · rcases Nat.lt_trichotomy t J with z | z | z
    · obtain ⟨i, a, b, c, d, e⟩ := hv t (by omega)
      refine ⟨i, by omega, b, ?_⟩
      rw [cnt, if_neg (fun x => by have := lo i a b x; omega), c]
      rfl
    · refine ⟨m, by omega, ha, ?_⟩
      rw [cnt, if_neg bf_irr, cm, z]
      rfl
    · obtain ⟨i, a, b, c, d, e⟩ := hv (t - 1) (by omega)
      refine ⟨i, by omega, b, ?_⟩
      have f : bf wa lx m i := by
        by_cases x : bf wa lx m i
        · exact x
        · have := hi i a b x; omega
      rw [cnt, if_pos f, c]; omega
theorem sort_PT (hn : n ≤ 8) (hL : ∀ i, i < n → ¬ wa i ≤ 0 → X0_laxityAt qph qgr qne qap qle qnw (nI i) = lx i) : ∀ (j k w : Nat) (tu : AR), k + j = n → PT wa lx k w tu → PT wa lx n (X0_shareByLaxity_L4 qph qgr qne qap qle qnw wa n j k w tu).1 (X0_shareByLaxity_L4 qph qgr qne qap qle qnw wa n j k w tu).2 := by
  intro j; induction j with
  | zero => intro k w tu hk h; rw [show k = n by omega] at h; exact h
  | succ j ih =>
    intro k w tu hk h
    rw [X0_shareByLaxity_L4, ck (by omega)]
    by_cases c : wa k ≤ 0
    · rw [if_pos c]
      obtain ⟨h1, h2, h3⟩ := h
      have nb : ∀ i, ¬ bf wa lx k i := fun i x => x.1 c
      refine ih _ _ _ (by omega) ⟨by rw [actc, if_pos c]; exact h1, fun i hi a => ?_, fun t ht => ?_⟩
      · have e : i ≠ k := fun e => a (by rw [e]; exact c)
        rw [cnt, if_neg (nb i), Nat.add_zero]; exact h2 i (by omega) a
      · obtain ⟨i, a, b, d⟩ := h3 t ht
        exact ⟨i, by omega, b, by rw [cnt, if_neg (nb i), d]; rfl⟩
    · rw [if_neg c]
      exact ih _ _ _ (by omega) (ins_PT (by omega) (fun i hi a => hL i (by omega) a) c h)
end
