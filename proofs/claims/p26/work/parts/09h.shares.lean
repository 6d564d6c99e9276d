section
variable {n : Nat} {qph qgr qne qap qle qfu : AR} {qnw : Int32} {rph rgr rca rne rap rle rfu : AR} {rti : Int32}
theorem flows_0 {g : AR} {f : Int32} (hn : n ≤ 8) (h : ∀ k, k < n → g k = 0) : X1_flows rph g n f = 0 := by
  have e0 : ∀ x : Int32, x + 0 = x := fun x => by grind
  have key : ∀ (j k : Nat) (su : Int32), k + j = n → X1_flows_L4 rph g n f j k su = su := by
    intro j; induction j with
    | zero => intro k su _; rfl
    | succ j ih =>
      intro k su hk
      rw [X1_flows_L4, ck (by omega), h k (by omega), e0, ih _ _ (by omega)]
      split
      · rfl
      · split <;> rfl
  rw [X1_flows]; exact key n 0 0 (by omega)
theorem flows_mono {g g2 : AR} {p : Nat} (hn : n ≤ 8) (h1 : RG n g) (h2 : ∀ k, k < n → 0 ≤ (g2 k).toInt ∧ (g2 k).toInt ≤ (g k).toInt) : 0 ≤ (X1_flows rph g2 n (nI p)).toInt ∧ (X1_flows rph g2 n (nI p)).toInt ≤ (X1_flows rph g n (nI p)).toInt := by
  have key : ∀ (j k : Nat) (su su2 : Int32), k + j = n → 0 ≤ su2.toInt → su2.toInt ≤ su.toInt → su.toInt ≤ 32 * (k : Int) → 0 ≤ (X1_flows_L4 rph g2 n (nI p) j k su2).toInt ∧ (X1_flows_L4 rph g2 n (nI p) j k su2).toInt ≤ (X1_flows_L4 rph g n (nI p) j k su).toInt := by
    intro j; induction j with
    | zero => intro k su su2 _ a b _; exact ⟨a, b⟩
    | succ j ih =>
      intro k su su2 hk a b c
      have e1 := h1 k (by omega)
      have e2 := h2 k (by omega)
      have s1 : (su + g k).toInt = su.toInt + (g k).toInt := i_add (by omega) (by omega)
      have s2 : (su2 + g2 k).toInt = su2.toInt + (g2 k).toInt := i_add (by omega) (by omega)
      have s0 : ∀ x : Int32, x + 0 = x := fun x => by grind
      rw [X1_flows_L4, X1_flows_L4, ck (by omega), s0, s0]
      split
      · exact ih _ _ _ (by omega) (by omega) (by omega) (by omega)
      · split
        · exact ih _ _ _ (by omega) (by omega) (by omega) (by omega)
        · exact ih _ _ _ (by omega) (by omega) (by omega) (by omega)
  rw [X1_flows, X1_flows]; exact key n 0 0 0 (by omega) (by rw [i_0]; omega) (by omega) (by rw [i_0]; omega)
theorem bal_all {gi lo g : AR} {gd : Int32} (hn : n ≤ 8) (hph : ∀ k, k < n → rph k = qph k) (hS : SR n rph gi lo g) (hL : LF n rph rfu g) (hG : RG n g) : SR n rph (X0_keepBalance qph gd gi lo n).1 (X0_keepBalance qph gd gi lo n).2 (X1_shares_L46 rph gd n 300 g) ∧ RG n (X1_shares_L46 rph gd n 300 g) ∧ LF n rph rfu (X1_shares_L46 rph gd n 300 g) := by
  have hp := pot_le (g := g) (b := 32) n (fun k hk => (hG k hk).2)
  have hr := bal_rng (rph := rph) (gd := gd) hn 300 g (fun k hk => (hG k hk).1)
  refine ⟨bal_eq hn hph 256 300 0 gi lo g (by omega) (by omega) hS, fun k hk => ⟨(hr k hk).1, Int.le_trans (hr k hk).2 (hG k hk).2⟩, fun p hp3 => ?_⟩
  have hm := flows_mono (rph := rph) (p := p) hn hG hr
  exact ⟨hm.1, Int.le_trans hm.2 (hL p hp3).2⟩
theorem start_L2 : ∀ (j k : Nat) (wa gi : AR), k + j ≤ 8 → ∀ q, ((X0_startShares_L2 qph qgr qne qap qle qnw n j k wa gi).1 q = if k ≤ q ∧ q < k + j then X0_reachAt qph qgr qne qap qle qnw (nI q) else wa q) ∧ ((X0_startShares_L2 qph qgr qne qap qle qnw n j k wa gi).2 q = if k ≤ q ∧ q < k + j then 0 else gi q) := by
  intro j; induction j with
  | zero => intro k wa gi _ q; rw [X0_startShares_L2, if_neg (by omega), if_neg (by omega)]; exact ⟨rfl, rfl⟩
  | succ j ih =>
    intro k wa gi h8 q
    rw [X0_startShares_L2, ck (by omega)]
    have h := ih (k + 1) (upd wa k (X0_reachAt qph qgr qne qap qle qnw (nI k))) (upd gi k 0) (by omega) q
    rw [h.1, h.2]
    unfold upd
    by_cases e : q = k
    · subst e
      refine ⟨?_, ?_⟩
      · rw [if_neg (by omega), if_pos rfl, if_pos (by omega)]
      · rw [if_neg (by omega), if_pos rfl, if_pos (by omega)]
    · rw [if_neg e, if_neg e]
      by_cases c : k + 1 ≤ q ∧ q < k + 1 + j
      · rw [if_pos c, if_pos c, if_pos (by omega), if_pos (by omega)]; exact ⟨rfl, rfl⟩
      · rw [if_neg c, if_neg c, if_neg (by omega), if_neg (by omega)]; exact ⟨rfl, rfl⟩
theorem start_L36 : ∀ (j k : Nat) (lo : AR), k + j ≤ 8 → ∀ q, (X0_startShares_L36 n j k lo) q = if k ≤ q ∧ q < k + j then 0 else lo q := by
  intro j; induction j with
  | zero => intro k lo _ q; rw [X0_startShares_L36, if_neg (by omega)]
  | succ j ih =>
    intro k lo h8 q
    rw [X0_startShares_L36, ck (by omega), ih _ _ (by omega)]
    unfold upd
    by_cases e : q = k
    · subst e; rw [if_neg (by omega), if_pos rfl, if_pos (by omega)]
    · rw [if_neg e]
      by_cases c : k + 1 ≤ q ∧ q < k + 1 + j
      · rw [if_pos c, if_pos (by omega)]
      · rw [if_neg c, if_neg (by omega)]
theorem shares_L2 : ∀ (j k : Nat) (gi pa : AR), k + j ≤ 8 → ∀ q, ((X1_shares_L2 n j k gi pa).1 q = if k ≤ q ∧ q < k + j then 0 else gi q) ∧ ((X1_shares_L2 n j k gi pa).2 q = if k ≤ q ∧ q < k + j then 0 else pa q) := by
  intro j; induction j with
  | zero => intro k wa gi _ q; rw [X1_shares_L2, if_neg (by omega), if_neg (by omega)]; exact ⟨rfl, rfl⟩
  | succ j ih =>
    intro k wa gi h8 q
    rw [X1_shares_L2, ck (by omega), nar0]
    have h := ih (k + 1) (upd wa k 0) (upd gi k 0) (by omega) q
    rw [h.1, h.2]
    unfold upd
    by_cases e : q = k
    · subst e
      refine ⟨?_, ?_⟩
      · rw [if_neg (by omega), if_pos rfl, if_pos (by omega)]
      · rw [if_neg (by omega), if_pos rfl, if_pos (by omega)]
    · rw [if_neg e, if_neg e]
      by_cases c : k + 1 ≤ q ∧ q < k + 1 + j
      · rw [if_pos c, if_pos c, if_pos (by omega), if_pos (by omega)]; exact ⟨rfl, rfl⟩
      · rw [if_neg c, if_neg c, if_neg (by omega), if_neg (by omega)]; exact ⟨rfl, rfl⟩
theorem shares0 {gi pa : AR} (hn : n ≤ 8) : (∀ k, k < n → (X1_shares_L2 n 8 0 gi pa).1 k = 0) ∧ ∀ k, k < n → (X1_shares_L2 n 8 0 gi pa).2 k = 0 := by
  have h := fun q => shares_L2 (n := n) 8 0 gi pa (by omega) q
  refine ⟨fun k hk => ?_, fun k hk => ?_⟩
  · rw [(h k).1, if_pos (by omega)]
  · rw [(h k).2, if_pos (by omega)]
theorem mI_reach (hn : n ≤ 8) (hI : mI rgr rca rap n) {k : Nat} (hk : k < n) : (X1_reaches rph rgr rca rne rap rle rti (nI k)).toInt ≤ 32 := by
  have h8 : k < 8 := by omega
  have hm := hI k hk
  rw [X1_reaches, ck h8]
  by_cases hc : rca k = 0
  · rw [if_pos hc, if_pos hc]; split <;> decide
  · have hb : (X1_most rgr rap (nI k)).toInt ≤ 32 := by
      rw [X1_most, ck h8]; split
      · exact (hm.2 hc).2
      · exact hm.1.2
    rw [if_neg hc, if_neg hc]
    split
    · split
      · decide
      · exact hb
    · split
      · decide
      · rename_i h1 _; rw [i_le] at h1; omega
theorem S_T1 {rgi rpa : AR} (hn : n ≤ 8) (hI : mI rgr rca rap n) : X1_fairly_L2_T rph rgr rca rne rap rle rfu rti n 300 1 (X1_shares_L2 n 8 0 rgi rpa).1 (X1_shares_L2 n 8 0 rgi rpa).2 := by
  have h0 := shares0 (gi := rgi) (pa := rpa) hn
  refine fair_T (wa := fun k => X1_reaches rph rgr rca rne rap rle rti (nI k)) hn (fun k _ => rfl) (fun k hk => mI_reach hn hI hk) 300 1 _ _ 0 (by omega) (by omega) (fun k hk => Or.inr (Or.inr ?_))
  rw [h0.1 k hk, i_0]; split <;> omega
theorem S_T2 {rgi rpa : AR} (hn : n ≤ 8) (hI : mI rgr rca rap n) {rba : Int32} : X1_shares_L46_T rph rba n 300 (X1_byLaxity rph rgr rca rne rap rle rfu rti (X1_shares_L2 n 8 0 rgi rpa).1 n) := by
  have h0 := shares0 (gi := rgi) (pa := rpa) hn
  have h := dist_32 (rfu := rfu) (wa := fun k => X1_reaches rph rgr rca rne rap rle rti (nI k)) hn (fun k _ => rfl) (fun k hk => mI_reach hn hI hk) n 0 (X1_shares_L2 n 8 0 rgi rpa).1 (fun i hi => by rw [h0.1 i hi]; decide)
  have hp := pot_le (b := 32) n h
  rw [X1_byLaxity]
  exact bal_T hn 300 _ (by omega)
/-- whatever the fuses are: no round gives more than what is wanted -/
theorem fair_32 {wa : AR} (hn : n ≤ 8) (hR : ∀ k, k < n → X1_reaches rph rgr rca rne rap rle rti (nI k) = wa k) (h32 : ∀ k, k < n → (wa k).toInt ≤ 32) : ∀ (j k : Nat) (ms : Int32) (g pa : AR), k + j = n → (∀ i, i < n → (g i).toInt ≤ 32) → ∀ i, i < n → ((X1_fairly_L10 rph rgr rca rne rap rle rfu rti n j k ms g pa).2.1 i).toInt ≤ 32 := by
  intro j; induction j with
  | zero => intro k ms g pa _ h; exact h
  | succ j ih =>
    intro k ms g pa hk h
    rw [fair_step hR (by omega) (by omega)]
    by_cases c1 : wa k ≤ g k
    · rw [if_pos c1]; exact ih _ _ _ _ (by omega) h
    · rw [if_neg c1]
      by_cases c2 : pa k = 0
      · rw [if_pos c2]
        split
        · refine ih _ _ _ _ (by omega) (fun i hi => ?_)
          unfold upd
          split
          · have h4 := h32 k (by omega)
            have h5 := Int32.le_toInt (g k)
            have h6 : (g k).toInt < (wa k).toInt := by rw [i_le] at c1; omega
            rw [i_add (by rw [i_1]; omega) (by rw [i_1]; omega), i_1]; omega
          · exact h i hi
        · rw [upd_self]; exact ih _ _ _ _ (by omega) h
      · rw [if_neg c2]; exact ih _ _ _ _ (by omega) h
theorem fair_32L {wa : AR} (hn : n ≤ 8) (hR : ∀ k, k < n → X1_reaches rph rgr rca rne rap rle rti (nI k) = wa k) (h32 : ∀ k, k < n → (wa k).toInt ≤ 32) : ∀ (j : Nat) (mr : Int32) (g pa : AR), (∀ i, i < n → (g i).toInt ≤ 32) → ∀ i, i < n → ((X1_fairly_L2 rph rgr rca rne rap rle rfu rti n j mr g pa).2.1 i).toInt ≤ 32 := by
  intro j; induction j with
  | zero => intro mr g pa h; exact h
  | succ j ih =>
    intro mr g pa h
    rw [X1_fairly_L2]
    split
    · exact h
    · exact ih _ _ _ (fair_32 hn hR h32 n 0 0 g pa (by omega) h)
theorem S_T3 {rgi rpa : AR} (hn : n ≤ 8) (hI : mI rgr rca rap n) {rba : Int32} : X1_shares_L46_T rph rba n 300 (X1_fairly rph rgr rca rne rap rle rfu rti (X1_shares_L2 n 8 0 rgi rpa).1 (X1_shares_L2 n 8 0 rgi rpa).2 n).1 := by
  have h0 := shares0 (gi := rgi) (pa := rpa) hn
  have h := fair_32L (rfu := rfu) (wa := fun k => X1_reaches rph rgr rca rne rap rle rti (nI k)) hn (fun k _ => rfl) (fun k hk => mI_reach hn hI hk) 300 1 (X1_shares_L2 n 8 0 rgi rpa).1 (X1_shares_L2 n 8 0 rgi rpa).2 (fun i hi => by rw [h0.1 i hi]; decide)
  have hp := pot_le (b := 32) n h
  rw [X1_fairly]
  refine bal_T hn 300 _ ?_
  dsimp only
  omega
/-- THE SHARING: the park's and the model's are the same -/
theorem shares_eq {qgd qri rba rru : Int32} {qwa qgi qlo qtu rgi rpa : AR} (hB : RB n qph qgr qne qap qle qfu qnw rph rgr rca rne rap rle rfu rti) (hba : rba = qgd) (hru : rru = qri ∧ (qri = 0 ∨ qri = 1)) :
    (∀ k, k < n → (X0_shareCurrents qph qgr qne qap qle qfu qgd qri qnw qwa qgi qlo qtu n).1 k = X1_reaches rph rgr rca rne rap rle rti (nI k)) ∧ SR n rph (X0_shareCurrents qph qgr qne qap qle qfu qgd qri qnw qwa qgi qlo qtu n).2.1 (X0_shareCurrents qph qgr qne qap qle qfu qgd qri qnw qwa qgi qlo qtu n).2.2.1 (X1_shares rph rgr rca rne rap rle rfu rba rru rti rgi rpa n).1 ∧ RG n (X1_shares rph rgr rca rne rap rle rfu rba rru rti rgi rpa n).1 ∧ LF n rph rfu (X1_shares rph rgr rca rne rap rle rfu rba rru rti rgi rpa n).1 := by
  have hn := hB.1
  have hph : ∀ k, k < n → rph k = qph k := fun k hk => (hB.2.1 k hk).1
  have hfu : ∀ p, p < 3 → rfu p = qfu p := fun p hp => (hB.2.2.2.2.1 p hp).1
  have hfb : ∀ p, p < 3 → 0 ≤ (rfu p).toInt ∧ (rfu p).toInt ≤ 100 := fun p hp => by rw [hfu p hp]; exact (hB.2.2.2.2.1 p hp).2
  obtain ⟨wa, hwa⟩ : ∃ wa, (X0_startShares qph qgr qne qap qle qnw qwa qgi qlo n).1 = wa := ⟨_, rfl⟩
  obtain ⟨gi, hgi⟩ : ∃ gi, (X0_startShares qph qgr qne qap qle qnw qwa qgi qlo n).2.1 = gi := ⟨_, rfl⟩
  obtain ⟨lo, hlo⟩ : ∃ lo, (X0_startShares qph qgr qne qap qle qnw qwa qgi qlo n).2.2 = lo := ⟨_, rfl⟩
  have hR : ∀ k, k < n → X1_reaches rph rgr rca rne rap rle rti (nI k) = wa k := fun k hk => by
    rw [← hwa, X0_startShares]
    dsimp only
    rw [(start_L2 n 0 qwa qgi (by omega) k).1, if_pos (by omega), RB_reach hB hk]
  have g0 : ∀ k, k < n → gi k = 0 := fun k hk => by
    rw [← hgi, X0_startShares]
    dsimp only
    rw [(start_L2 n 0 qwa qgi (by omega) k).2, if_pos (by omega)]
  have l0 : ∀ p, p < 3 → lo p = 0 := fun p hp => by
    rw [← hlo, X0_startShares]
    dsimp only
    rw [start_L36 3 0 qlo (by omega) p, if_pos (by omega)]
  have h32 : ∀ k, k < n → (wa k).toInt ≤ 32 := fun k hk => by rw [← hR k hk]; exact RB_reachR hB hk
  obtain ⟨g, hg⟩ : ∃ g, (X1_shares_L2 n 8 0 rgi rpa).1 = g := ⟨_, rfl⟩
  obtain ⟨pa, hpa⟩ : ∃ pa, (X1_shares_L2 n 8 0 rgi rpa).2 = pa := ⟨_, rfl⟩
  have z := shares0 (gi := rgi) (pa := rpa) hn
  rw [hg, hpa] at z
  have hS : SR n rph gi lo g := ⟨fun k hk => by rw [g0 k hk, z.1 k hk], fun p hp => by rw [l0 p hp, flows_0 hn z.1]⟩
  have hF : LF n rph rfu g := fun p hp => by rw [flows_0 hn z.1, i_0]; exact ⟨Int.le_refl _, (hfb p hp).1⟩
  have hG : RG n g := fun k hk => by rw [z.1 k hk, i_0]; omega
  obtain ⟨e1, e2⟩ := hru
  rw [X0_shareCurrents, X1_shares, e1, hba, hwa, hgi, hlo, hg, hpa]
  rcases e2 with e | e
  · rw [e, if_neg (by decide), if_pos rfl]
    have hLx : ∀ i, i < n → ¬ wa i ≤ 0 → X0_laxityAt qph qgr qne qap qle qnw (nI i) = (fun k => X1_lax rph rgr rne rap rle rti (nI k)) i := fun i hi a => by
      refine RB_lax hB hi (fun hc => a ?_)
      have e1 : X1_reaches rph rgr rca rne rap rle rti (nI i) = 0 := by
        rw [X1_reaches, ck (by omega), if_pos hc, if_pos hc]; split <;> rfl
      rw [← hR i hi, e1]; decide
    have hT := sort_PT hn hLx n 0 0 qtu (by omega) ⟨rfl, fun i h => by omega, fun t h => by omega⟩
    have hT2 := hT
    rw [hT.1] at hT2
    have hd := dist_eq (lx := fun k => X1_lax rph rgr rne rap rle rti (nI k)) hn hR (fun k _ => rfl) h32 hph hfu hfb hT2 (actc wa n) n 0 gi lo g (by omega) (by omega) hS hF hG (fun i hi _ _ => z.1 i hi)
    have hb := bal_all (gd := qgd) hn hph hd.1 hd.2.1 hd.2.2
    refine ⟨fun k hk => (hR k hk).symm, ?_⟩
    rw [X0_shareByLaxity, X1_byLaxity]
    dsimp only
    rw [hT.1]
    exact hb
  · rw [e, if_pos rfl, if_neg (by decide)]
    have hf := fair_eq hn hR h32 hph hfu hfb 32 300 0 1 g pa gi lo 0 (by omega) (by omega) hS hF hG (fun k hk h => absurd (z.2 k hk) h) (Or.inr rfl) (fun k hk => Or.inr (Or.inr (by rw [z.1 k hk, i_0]; split <;> omega)))
    have hb := bal_all (gd := qgd) hn hph hf.1 hf.2.1 hf.2.2
    refine ⟨fun k hk => (hR k hk).symm, ?_⟩
    rw [X0_shareFairly, X1_fairly]
    exact hb
end
