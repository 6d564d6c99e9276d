section
variable {n p : Nat} {qph qgr qne qap qle qfu : AR} {qnw : Int32} {rph rgr rca rne rap rle rfu : AR} {rti : Int32} {r : Nat → Int}
theorem RB_reach0 (h : RB n qph qgr qne qap qle qfu qnw rph rgr rca rne rap rle rfu rti) {k : Nat} (hk : k < n) : 0 ≤ (X1_reaches rph rgr rca rne rap rle rti (nI k)).toInt := by
  have h8 : k < 8 := by have := h.1; omega
  rw [X1_reaches, ck h8]
  by_cases hc : rca k = 0
  · rw [if_pos hc, if_pos hc]; split <;> decide
  · have hm := RB_mostR h hk hc
    have hr := h.2.2.2.1 k h8
    have ht : 1 ≤ (X1_times rph (nI k)).toInt ∧ (X1_times rph (nI k)).toInt ≤ 3 := by
      rcases RB_tm (rph := rph) (i := nI k) with e | e <;> rw [e] <;> decide
    have hu : 0 ≤ (X1_up (rne k) (X1_times rph (nI k))).toInt := by
      rw [X1_up]
      have e1 : (rne k + X1_times rph (nI k)).toInt = (rne k).toInt + (X1_times rph (nI k)).toInt := i_add (by omega) (by omega)
      have e2 : (rne k + X1_times rph (nI k) - 1).toInt = (rne k + X1_times rph (nI k)).toInt - 1 := i_sub (b := 1) (by rw [i_1]; omega) (by rw [i_1]; omega)
      rw [i_div (by omega) (by omega)]
      exact Int.ediv_nonneg (by omega) (by omega)
    rw [if_neg hc, if_neg hc]
    split
    · split
      · decide
      · omega
    · split
      · decide
      · exact hu
theorem used_int {wa : AR} {v : Nat} (hn : n ≤ 8) (hv : v ≤ 32) (hph : ∀ k, k < n → rph k = qph k) (hw : ∀ k, k < n → (wa k).toInt = r k) (hr : ∀ i, i < n → 0 ≤ r i ∧ r i ≤ 32) : ∀ (j k : Nat) (su : Int32), k + j = n → 0 ≤ su.toInt → su.toInt ≤ 32 * (k : Int) → (X0_usedAtLevel_L5 qph wa n (nI p) (nI v) j k su).toInt = su.toInt + sF (fun i => if rph i = nI p then min (v : Int) (r i) else 0) j k := by
  have ev : (nI v).toInt = (v : Int) := nI_toInt (by omega)
  intro j; induction j with
  | zero => intro k su _ _ _; rw [X0_usedAtLevel_L5, sF]; omega
  | succ j ih =>
    intro k su hk h0 h1
    have h2 := hr k (by omega)
    have h3 := hw k (by omega)
    rw [X0_usedAtLevel_L5, sF, ck (by omega), ← hph k (by omega)]
    by_cases a : rph k = nI p
    · rw [if_pos a, if_pos a]
      have em : (if nI v < wa k then nI v else wa k).toInt = min (v : Int) (r k) := by
        by_cases c : nI v < wa k
        · rw [if_pos c]; rw [i_lt] at c; omega
        · rw [if_neg c]; rw [i_lt] at c; omega
      have ea : (su + (if nI v < wa k then nI v else wa k)).toInt = su.toInt + min (v : Int) (r k) := by
        rw [i_add (by rw [em]; omega) (by rw [em]; omega), em]
      rw [ih _ _ (by omega) (by rw [ea]; omega) (by rw [ea]; omega), ea]; omega
    · rw [if_neg a, if_neg a, ih _ _ (by omega) h0 (by omega)]; omega
theorem given_int {gi : AR} {g : Nat → Int} (hn : n ≤ 8) (hph : ∀ k, k < n → rph k = qph k) (hw : ∀ k, k < n → (gi k).toInt = g k) (hr : ∀ i, i < n → 0 ≤ g i ∧ g i ≤ 32) : ∀ (j k : Nat) (su : Int32), k + j = n → 0 ≤ su.toInt → su.toInt ≤ 32 * (k : Int) → (X0_givenAtAllPhases_L4 qph gi n j k su).toInt = su.toInt + sF (fun i => if rph i = 3 then g i else 0) j k := by
  intro j; induction j with
  | zero => intro k su _ _ _; rw [X0_givenAtAllPhases_L4, sF]; omega
  | succ j ih =>
    intro k su hk h0 h1
    have h2 := hr k (by omega)
    have h3 := hw k (by omega)
    rw [X0_givenAtAllPhases_L4, sF, ck (by omega), ← hph k (by omega)]
    by_cases a : rph k = 3
    · rw [if_pos a, if_pos a]
      have ea : (su + gi k).toInt = su.toInt + g k := by rw [i_add (by omega) (by omega), h3]
      rw [ih _ _ (by omega) (by rw [ea]; omega) (by rw [ea]; omega), ea]; omega
    · rw [if_neg a, if_neg a, ih _ _ (by omega) h0 (by omega)]; omega
theorem flows_ge {gi : AR} {g : Nat → Int} (hn : n ≤ 8) (hw : ∀ k, k < n → (gi k).toInt = g k) (hr : ∀ i, i < n → 0 ≤ g i ∧ g i ≤ 32) : ∀ (j k : Nat) (su : Int32), k + j = n → 0 ≤ su.toInt → su.toInt ≤ 32 * (k : Int) → su.toInt + sF (fun i => if rph i = 3 then g i else 0) j k ≤ (X1_flows_L4 rph gi n (nI p) j k su).toInt := by
  intro j; induction j with
  | zero => intro k su _ _ _; rw [X1_flows_L4, sF]; omega
  | succ j ih =>
    intro k su hk h0 h1
    have h2 := hr k (by omega)
    have h3 := hw k (by omega)
    have s0 : su + 0 = su := by grind
    have ea : (su + gi k).toInt = su.toInt + g k := by rw [i_add (by omega) (by omega), h3]
    have i1 := ih (k + 1) (su + gi k) (by omega) (by omega) (by omega)
    have i2 := ih (k + 1) su (by omega) h0 (by omega)
    rw [X1_flows_L4, sF, ck (by omega), s0]
    by_cases a : rph k = 3
    · rw [if_pos a, if_pos a]; split <;> omega
    · rw [if_neg a, if_neg a]; split <;> omega
theorem l46_int {rba rru : Int32} {rgi rpa : AR} {g : Nat → Int} (hn : n ≤ 8) (hp : p < 3) (hw : ∀ k, k < n → ((X1_shares rph rgr rca rne rap rle rfu rba rru rti rgi rpa n).1 k).toInt = g k) (hg : ∀ i, i < n → 0 ≤ g i ∧ g i ≤ 32) (hR : ∀ k, k < n → (X1_reaches rph rgr rca rne rap rle rti (nI k)).toInt = r k) (hr : ∀ i, i < n → 0 ≤ r i ∧ r i ≤ 32) : ∀ (j k : Nat) (lf wn mn : Int32), k + j = n → -(32 * (k : Int)) ≤ lf.toInt → lf.toInt ≤ 100 → 0 ≤ wn.toInt → wn.toInt ≤ 32 * (k : Int) → 0 ≤ mn.toInt → mn.toInt ≤ k →
    (X1_fairLevel_L46 rph rgr rca rne rap rle rfu rba rru rti rgi rpa n (nI p) j k lf wn mn).1.toInt = lf.toInt - sF (fun i => if rph i = 3 then g i else 0) j k ∧ (X1_fairLevel_L46 rph rgr rca rne rap rle rfu rba rru rti rgi rpa n (nI p) j k lf wn mn).2.1.toInt = wn.toInt + sF (fun i => if rph i = nI p then min ((32 : Nat) : Int) (r i) else 0) j k ∧ (X1_fairLevel_L46 rph rgr rca rne rap rle rfu rba rru rti rgi rpa n (nI p) j k lf wn mn).2.2.toInt = mn.toInt + sF (fun i => if rph i = nI p ∧ 0 < r i ∧ ¬ lvD r 0 1 0 i then 1 else 0) j k := by
  have n3 : ¬ (3 : Int32) = nI p := fun c => by
    have := nI_toInt (n := p) (by omega)
    rw [← c, i_3] at this; omega
  intro j; induction j with
  | zero => intro k lf wn mn _ _ _ _ _ _ _; rw [X1_fairLevel_L46, sF, sF, sF]; dsimp only; omega
  | succ j ih =>
    intro k lf wn mn hk a1 a2 b1 b2 c1 c2
    have h2 := hg k (by omega)
    have h3 := hw k (by omega)
    have h4 := hR k (by omega)
    have h5 := hr k (by omega)
    have s0 : ∀ x : Int32, x + 0 = x := fun x => by grind
    have s1 : ∀ x : Int32, x - 0 = x := fun x => by grind
    have nd : ¬ lvD r 0 1 0 k := fun c => by obtain ⟨x, y, -⟩ := c; omega
    rw [X1_fairLevel_L46, ck (by omega), s0, s0, s1]
    by_cases d : rph k = 3
    · have e : ¬ rph k = nI p := fun c => n3 (by rw [← d]; exact c)
      have el : (lf - (X1_shares rph rgr rca rne rap rle rfu rba rru rti rgi rpa n).1 k).toInt = lf.toInt - g k := by rw [i_sub (by omega) (by omega), h3]
      rw [if_pos d, if_neg e, sF, sF, sF]
      have := ih (k + 1) (lf - (X1_shares rph rgr rca rne rap rle rfu rba rru rti rgi rpa n).1 k) wn mn (by omega) (by omega) (by omega) b1 (by omega) c1 (by omega)
      rw [if_pos d, if_neg e, if_neg (fun c => e c.1)]
      exact ⟨by rw [this.1, el]; omega, by rw [this.2.1]; omega, by rw [this.2.2]; omega⟩
    · rw [if_neg d, sF, sF, sF, if_neg d]
      by_cases e : rph k = nI p
      · have ew : (wn + X1_reaches rph rgr rca rne rap rle rti (nI k)).toInt = wn.toInt + r k := by rw [i_add (by omega) (by omega), h4]
        rw [if_pos e, if_pos e]
        by_cases f : X1_reaches rph rgr rca rne rap rle rti (nI k) ≤ 0
        · have f2 : r k ≤ 0 := by rw [i_le, i_0] at f; omega
          have := ih (k + 1) lf (wn + X1_reaches rph rgr rca rne rap rle rti (nI k)) mn (by omega) (by omega) (by omega) (by omega) (by omega) c1 (by omega)
          rw [if_pos f, if_neg (fun c => by have := c.2.1; omega)]
          exact ⟨by rw [this.1]; omega, by rw [this.2.1, ew]; omega, by rw [this.2.2]; omega⟩
        · have f2 : 0 < r k := by rw [i_le, i_0] at f; omega
          have em : (mn + 1).toInt = mn.toInt + 1 := i_add (b := 1) (by rw [i_1]; omega) (by rw [i_1]; omega)
          have := ih (k + 1) lf (wn + X1_reaches rph rgr rca rne rap rle rti (nI k)) (mn + 1) (by omega) (by omega) (by omega) (by omega) (by omega) (by omega) (by omega)
          rw [if_neg f, if_pos ⟨e, f2, nd⟩]
          exact ⟨by rw [this.1]; omega, by rw [this.2.1, ew]; omega, by rw [this.2.2, em]; omega⟩
      · have := ih (k + 1) lf wn mn (by omega) (by omega) (by omega) (by omega) (by omega) c1 (by omega)
        rw [if_neg e, if_neg e, if_neg (fun c => e c.1)]
        exact ⟨by rw [this.1]; omega, by rw [this.2.1]; omega, by rw [this.2.2]; omega⟩
theorem walk160 {fr : Int} {v k : Nat} (hn : n ≤ 8) (hR : ∀ k, k < n → (X1_reaches rph rgr rca rne rap rle rti (nI k)).toInt = r k) (hr : ∀ i, i < n → 0 ≤ r i ∧ r i ≤ 32) (hf : 0 ≤ fr ∧ fr ≤ 100) (hv1 : lvU n p rph r v ≤ fr) (hv2 : fr < lvU n p rph r (v + 1)) (h1 : 1 ≤ k) (h32 : k ≤ 32) : ∀ (j q : Nat) (lh mh : Int32), q + j = n → lh.toInt = fr - lvL n p rph r v k q → mh.toInt = lvM n p rph r v k q →
    (X1_fairLevel_L160 rph rgr rca rne rap rle rti n (nI p) k j q lh mh).1.toInt = fr - lvL n p rph r v k n ∧ (X1_fairLevel_L160 rph rgr rca rne rap rle rti n (nI p) k j q lh mh).2.toInt = lvM n p rph r v k n := by
  have ek : (nI k).toInt = (k : Int) := nI_toInt (by omega)
  intro j; induction j with
  | zero => intro q lh mh hq a b; rw [show q = n by omega] at a b; exact ⟨a, b⟩
  | succ j ih =>
    intro q lh mh hq a b
    have h4 := hR q (by omega)
    have h5 := hr q (by omega)
    have bL := lvL_bnd (n := n) (p := p) (rph := rph) (v := v) (k := k) (q := q) hr
    have bM := lvM_bnd (n := n) (p := p) (rph := rph) (r := r) (v := v) (k := k) (q := q)
    have keep : (rph q = nI p → ¬ (r q = (k : Int) ∧ k ≤ v)) → lvL n p rph r v k (q + 1) = lvL n p rph r v k q ∧ lvM n p rph r v k (q + 1) = lvM n p rph r v k q := fun h => by
      refine lv_same (fun i hi ha => ?_)
      constructor
      · rintro ⟨x, y, z⟩; exact ⟨x, y, by omega⟩
      · rintro ⟨x, y, z⟩
        refine ⟨x, y, ?_⟩
        rcases z with z | ⟨z, w⟩
        · exact Or.inl z
        · by_cases e : i = q
          · subst e; exact absurd ⟨z, by omega⟩ (h ha)
          · exact Or.inr ⟨z, by omega⟩
    rw [X1_fairLevel_L160, ck (by omega)]
    by_cases c1 : rph q = nI p
    · rw [if_pos c1]
      by_cases c2 : X1_reaches rph rgr rca rne rap rle rti (nI q) = nI k
      · have rq : r q = (k : Int) := by rw [← h4, c2, ek]
        have eb : (nI k).toInt * mh.toInt = (k : Int) * lvM n p rph r v k q := by rw [ek, b]
        have mb : 0 ≤ (k : Int) * lvM n p rph r v k q ∧ (k : Int) * lvM n p rph r v k q ≤ 32 * 8 := by
          refine ⟨Int.mul_nonneg (by omega) bM.1, ?_⟩
          exact Int.mul_le_mul (by omega) (by omega) bM.1 (by omega)
        have em : (nI k * mh).toInt = (k : Int) * lvM n p rph r v k q := by rw [i_mul (by rw [eb]; omega) (by rw [eb]; omega), eb]
        rw [if_pos c2]
        by_cases c3 : k ≤ v
        · have lo := lv_low (p := p) (rph := rph) (q := q) c3 hr
          have mo := lvU_mono (n := n) (p := p) (rph := rph) (r := r) c3
          have nl : ¬ lh < nI k * mh := by rw [i_lt, em, a]; omega
          have tk := lv_take (n := n) (p := p) (rph := rph) h1 c3 (by omega) c1 rq
          rw [if_neg nl]
          refine ih (q + 1) _ _ (by omega) ?_ ?_
          · rw [i_sub (by omega) (by omega), ek, a, tk.1]; omega
          · rw [i_add (b := -1) (by rw [i_m1]; omega) (by rw [i_m1]; omega), i_m1, b, tk.2]; omega
        · have hi := lv_high (p := p) (rph := rph) (q := q) (show v < k by omega) hr
          have yl : lh < nI k * mh := by rw [i_lt, em, a]; omega
          have kp := keep (fun _ c => c3 c.2)
          rw [if_pos yl]
          exact ih (q + 1) _ _ (by omega) (by rw [kp.1]; exact a) (by rw [kp.2]; exact b)
      · have rq : ¬ r q = (k : Int) := fun c => c2 (Int32.toInt_inj.mp (by rw [h4, c, ek]))
        have kp := keep (fun _ c => rq c.1)
        rw [if_neg c2]
        exact ih (q + 1) _ _ (by omega) (by rw [kp.1]; exact a) (by rw [kp.2]; exact b)
    · have kp := keep (fun c => absurd c c1)
      rw [if_neg c1]
      exact ih (q + 1) _ _ (by omega) (by rw [kp.1]; exact a) (by rw [kp.2]; exact b)
theorem walk150 {fr : Int} {v : Nat} (hn : n ≤ 8) (hR : ∀ k, k < n → (X1_reaches rph rgr rca rne rap rle rti (nI k)).toInt = r k) (hr : ∀ i, i < n → 0 ≤ r i ∧ r i ≤ 32) (hf : 0 ≤ fr ∧ fr ≤ 100) (hv1 : lvU n p rph r v ≤ fr) (hv2 : fr < lvU n p rph r (v + 1)) : ∀ (j k : Nat) (lg mg : Int32), k + j = 33 → 1 ≤ k → lg.toInt = fr - lvL n p rph r v k 0 → mg.toInt = lvM n p rph r v k 0 →
    (X1_fairLevel_L150 rph rgr rca rne rap rle rti n (nI p) j k lg mg).1.toInt = fr - lvL n p rph r v 33 0 ∧ (X1_fairLevel_L150 rph rgr rca rne rap rle rti n (nI p) j k lg mg).2.toInt = lvM n p rph r v 33 0 := by
  intro j; induction j with
  | zero => intro k lg mg hk _ a b; rw [show k = 33 by omega] at a b; exact ⟨a, b⟩
  | succ j ih =>
    intro k lg mg hk h1 a b
    have w := walk160 (rgr := rgr) (rca := rca) (rne := rne) (rap := rap) (rle := rle) (rti := rti) hn hR hr hf hv1 hv2 h1 (by omega) n 0 lg mg (by omega) a b
    have s := lv_same (n := n) (p := p) (rph := rph) (r := r) (v := v) (k := k) (q := n) (k2 := k + 1) (q2 := 0) (fun i hi _ => by
      constructor <;> (rintro ⟨x, y, z⟩; exact ⟨x, y, by omega⟩))
    rw [X1_fairLevel_L150]
    exact ih (k + 1) _ _ (by omega) (by omega) (by rw [s.1]; exact w.1) (by rw [s.2]; exact w.2)
end
