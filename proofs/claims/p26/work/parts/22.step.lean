section
variable {n : Nat} {qph qgr qne qap qle qfu : AR} {qnw : Int32} {rph rgr rca rne rap rle rfu : AR} {rti : Int32} {wa : AR}
theorem fair_zero {q : Nat} (hn : n ≤ 8) (hR : ∀ k, k < n → X1_reaches rph rgr rca rne rap rle rti (nI k) = wa k) (hq : wa q ≤ 0) : ∀ (j k : Nat) (ms : Int32) (g pa : AR), k + j = n → g q = 0 → (X1_fairly_L10 rph rgr rca rne rap rle rfu rti n j k ms g pa).2.1 q = 0 := by
  intro j; induction j with
  | zero => intro k ms g pa _ h; exact h
  | succ j ih =>
    intro k ms g pa hk h
    rw [fair_step hR (by omega) (by omega)]
    by_cases c1 : wa k ≤ g k
    · rw [if_pos c1]; exact ih _ _ _ _ (by omega) h
    · rw [if_neg c1]
      have e : q ≠ k := fun e => c1 (by rw [← e, h]; exact hq)
      by_cases c2 : pa k = 0
      · rw [if_pos c2]
        split
        · exact ih _ _ _ _ (by omega) (by rw [upd_ne e]; exact h)
        · exact ih _ _ _ _ (by omega) (by rw [upd_ne e]; exact h)
      · rw [if_neg c2]; exact ih _ _ _ _ (by omega) h
theorem fair_zeroL {q : Nat} (hn : n ≤ 8) (hR : ∀ k, k < n → X1_reaches rph rgr rca rne rap rle rti (nI k) = wa k) (hq : wa q ≤ 0) : ∀ (j : Nat) (mr : Int32) (g pa : AR), g q = 0 → (X1_fairly_L2 rph rgr rca rne rap rle rfu rti n j mr g pa).2.1 q = 0 := by
  intro j; induction j with
  | zero => intro mr g pa h; exact h
  | succ j ih =>
    intro mr g pa h
    rw [X1_fairly_L2]
    split
    · exact h
    · exact ih _ _ _ (fair_zero hn hR hq n 0 0 g pa (by omega) h)
theorem d_zero {i : Nat} (hn : n ≤ 8) (hR : ∀ k, k < n → X1_reaches rph rgr rca rne rap rle rti (nI k) = wa k) (hi : wa i ≤ 0) {k : Nat} : ∀ (j q : Nat) (g : AR), q + j = n → g i = 0 → X1_byLaxity_L12 rph rgr rca rne rap rle rfu rti n k j q g i = 0 := by
  intro j; induction j with
  | zero => intro q g _ h; exact h
  | succ j ih =>
    intro q g hq h
    rw [X1_byLaxity_L12, hR q (by omega), ck (by omega)]
    by_cases c : wa q ≤ 0
    · rw [if_pos c]; exact ih _ _ (by omega) h
    · have e : i ≠ q := fun e => c (by rw [← e]; exact hi)
      rw [if_neg c]
      split
      · split
        · exact ih _ _ (by omega) (by rw [upd_ne e]; exact h)
        · exact ih _ _ (by omega) (by rw [upd_ne e]; exact h)
      · exact ih _ _ (by omega) h
theorem dist_zero {i : Nat} (hn : n ≤ 8) (hR : ∀ k, k < n → X1_reaches rph rgr rca rne rap rle rti (nI k) = wa k) (hi : wa i ≤ 0) : ∀ (j k : Nat) (g : AR), g i = 0 → X1_byLaxity_L2 rph rgr rca rne rap rle rfu rti n j k g i = 0 := by
  intro j; induction j with
  | zero => intro k g h; exact h
  | succ j ih => intro k g h; rw [X1_byLaxity_L2]; exact ih _ _ (d_zero hn hR hi n 0 g (by omega) h)
theorem bal_zero {gd : Int32} {q : Nat} (hn : n ≤ 8) : ∀ (j : Nat) (g : AR), g q = 0 → X1_shares_L46 rph gd n j g q = 0 := by
  intro j; induction j with
  | zero => intro g h; exact h
  | succ j ih =>
    intro g h
    rw [X1_shares_L46]
    split
    · exact h
    · split
      · exact h
      · rename_i h1 h2
        rcases giver_cases (rph := rph) (gj := g) (f := X1_high rph g n) hn with e | ⟨i, h3, h4, h5⟩
        · rw [e] at h2; exact absurd (by decide) h2
        · have e : q ≠ i := fun e => by rw [← e, h, i_0] at h5; omega
          rw [h4, ck (by omega)]
          exact ih _ (by rw [upd_ne e]; exact h)
theorem shares_zero {rba rru : Int32} {rgi rpa : AR} {q : Nat} (hn : n ≤ 8) (hq : q < n) (hz : X1_reaches rph rgr rca rne rap rle rti (nI q) ≤ 0) : (X1_shares rph rgr rca rne rap rle rfu rba rru rti rgi rpa n).1 q = 0 := by
  have z := shares0 (gi := rgi) (pa := rpa) hn
  rw [X1_shares]
  split
  · refine bal_zero hn 300 _ ?_
    rw [X1_byLaxity]; exact dist_zero (wa := fun k => X1_reaches rph rgr rca rne rap rle rti (nI k)) hn (fun k _ => rfl) hz n 0 _ (z.1 q hq)
  · refine bal_zero hn 300 _ ?_
    rw [X1_fairly]; exact fair_zeroL (wa := fun k => X1_reaches rph rgr rca rne rap rle rti (nI k)) hn (fun k _ => rfl) hz 300 1 _ _ (z.1 q hq)
/-- the cars' needs, of the park and of the model -/
def NE (n : Nat) (rca vne wne : AR) : Prop := (∀ k, k < n → (rca k = 0 ∧ vne k = -1) ∨ (rca k = 1 ∧ vne k = wne k)) ∧ ∀ k, k < 8 → 0 ≤ (wne k).toInt ∧ (wne k).toInt ≤ 5000
theorem take_eq {gi : AR} {vne0 : AR} {vti vtk tk0 rba rru i : Int32} {wgi wpa : AR} (hn : n ≤ 8) (hph : ∀ k, k < n → rph k = qph k) (hG : RG n (X1_shares rph rgr rca vne0 rap rle rfu rba rru vti wgi wpa n).1) (hgi : ∀ k, k < n → gi k = (X1_shares rph rgr rca vne0 rap rle rfu rba rru vti wgi wpa n).1 k) (hz : ∀ k, k < n → rca k = 0 → (X1_shares rph rgr rca vne0 rap rle rfu rba rru vti wgi wpa n).1 k = 0) : ∀ (j k : Nat) (vne wne : AR) (vtk bl : Int32), k + j = n → NE n rca vne wne → vtk = tk0 + bl →
    NE n rca (X0_takeWhatIsGiven_L2 qph gi n j k vne vtk).1 (X1_step_L42 rph rgr rca rap rle rfu rba rru n i vne0 vti wgi wpa j k bl wne).2 ∧ (X0_takeWhatIsGiven_L2 qph gi n j k vne vtk).2 = tk0 + (X1_step_L42 rph rgr rca rap rle rfu rba rru n i vne0 vti wgi wpa j k bl wne).1 := by
  intro j; induction j with
  | zero => intro k vne wne vtk bl _ h1 h2; exact ⟨h1, h2⟩
  | succ j ih =>
    intro k vne wne vtk bl hk h1 h2
    have hkn : k < n := by omega
    have hb := hG k hkn
    have eu : X0_unitsPerAmpere qph (nI k) = X1_times rph (nI k) := by rw [X0_unitsPerAmpere, X1_times, ck (by omega), hph k hkn]
    rw [X0_takeWhatIsGiven_L2, X1_step_L42, ck (by omega), hgi k hkn, eu]
    have hx := h1.2 k (by omega)
    have hcar := h1.1 k hkn
    have hzz := hz k hkn
    generalize (X1_shares rph rgr rca vne0 rap rle rfu rba rru vti wgi wpa n).1 k = g at *
    by_cases c : g ≤ 0
    · have g0 : g = 0 := Int32.toInt_inj.mp (by rw [i_le, i_0] at c; rw [i_0]; omega)
      have p0 : g * X1_times rph (nI k) = 0 := by rw [g0]; grind
      have s0 : wne k - 0 = wne k := by grind
      have b0 : bl + 0 = bl := by grind
      rw [if_pos c, p0, s0, b0, upd_self]
      by_cases d : wne k ≤ 0
      · have x0 : wne k = 0 := Int32.toInt_inj.mp (by rw [i_le, i_0] at d; rw [i_0]; omega)
        have s1 : wne k - wne k = wne k := by rw [x0]; grind
        have b1 : bl + wne k = bl := by rw [x0]; grind
        rw [if_pos d, s1, b1, upd_self]
        exact ih _ _ _ _ _ (by omega) h1 h2
      · rw [if_neg d]
        exact ih _ _ _ _ _ (by omega) h1 h2
    · have hc : rca k = 1 ∧ vne k = wne k := by
        rcases hcar with x | x
        · exact absurd (hzz x.1) (fun y => c (by rw [y]; decide))
        · exact x
      have gp : 0 < g.toInt := by rw [i_le, i_0] at c; omega
      have hp : 0 ≤ (g * X1_times rph (nI k)).toInt ∧ (g * X1_times rph (nI k)).toInt ≤ 96 := by
        rcases RB_tm (rph := rph) (i := nI k) with e | e <;> rw [e, i_mul] <;> simp only [i_3, i_1] <;> omega
      rw [if_neg c, hc.2]
      generalize g * X1_times rph (nI k) = p at *
      obtain ⟨tk, htk⟩ : ∃ tk : Int32, (if wne k < p then wne k else p) = tk := ⟨_, rfl⟩
      have t0 : 0 ≤ tk.toInt ∧ tk.toInt ≤ (wne k).toInt := by
        rw [← htk]
        by_cases e : wne k < p
        · rw [if_pos e]; omega
        · rw [if_neg e]; rw [i_lt] at e; omega
      have es : (wne k - tk).toInt = (wne k).toInt - tk.toInt := i_sub (by omega) (by omega)
      have hN : NE n rca (upd vne k (wne k - tk)) (upd wne k (wne k - tk)) := by
        refine ⟨fun q hq => ?_, fun q hq => ?_⟩
        · by_cases z : q = k
          · subst z; rw [upd_at, upd_at]; exact Or.inr ⟨hc.1, rfl⟩
          · rw [upd_ne z, upd_ne z]; exact h1.1 q hq
        · by_cases z : q = k
          · subst z; rw [upd_at]; omega
          · rw [upd_ne z]; exact h1.2 q hq
      have e2 : vtk + tk = tk0 + (bl + tk) := by rw [h2]; grind
      rw [htk]
      by_cases d : wne k ≤ p
      · have e3 : wne k = tk := by rw [← htk]; grind
        rw [if_pos d]
        have := ih (k + 1) _ _ _ _ (by omega) hN e2
        rw [← e3] at this ⊢
        exact this
      · have e3 : p = tk := by rw [← htk]; grind
        rw [if_neg d, e3]
        exact ih (k + 1) _ _ _ _ (by omega) hN e2
theorem RB_NE {vne wne : AR} {vnw vti : Int32} (hB : RB n qph qgr qne qap qle qfu qnw rph rgr rca rne rap rle rfu rti) (hN : NE n rca vne wne) (ht : vti = vnw ∧ 0 ≤ vnw.toInt ∧ vnw.toInt ≤ 30000) : RB n qph qgr vne qap qle qfu vnw rph rgr rca wne rap rle rfu vti := by
  obtain ⟨h8, c2, c3, c4, c6, c9⟩ := hB
  refine ⟨h8, c2, fun k hk => ?_, hN.2, c6, ht⟩
  rcases hN.1 k hk with x | x
  · exact Or.inl x
  · rcases c3 k hk with y | y
    · rw [y.1] at x; exact absurd x.1 (by decide)
    · exact Or.inr ⟨x.1, x.2, y.2.2⟩
theorem step_eq {qgd qri rba rru tk0 i : Int32} (hba : rba = qgd) (hru : rru = qri ∧ (qri = 0 ∨ qri = 1)) : ∀ (j k : Nat) (vne wne : AR) (vnw vti vtk al : Int32) (vwa vgi vlo vtu wgi wpa : AR), RB n qph qgr vne qap qle qfu vnw rph rgr rca wne rap rle rfu vti → vnw.toInt + j ≤ 30000 → vtk = tk0 + al →
    NE n rca (X0_step_L14 qph qgr qap qle qfu qgd qri n i j k vne vnw vtk vwa vgi vlo vtu).1 (X1_step_L23 rph rgr rca rap rle rfu rba rru n i j k al wne vti wgi wpa).2.1 ∧ (X1_step_L23 rph rgr rca rap rle rfu rba rru n i j k al wne vti wgi wpa).2.2.1 = (X0_step_L14 qph qgr qap qle qfu qgd qri n i j k vne vnw vtk vwa vgi vlo vtu).2.1 ∧ (X0_step_L14 qph qgr qap qle qfu qgd qri n i j k vne vnw vtk vwa vgi vlo vtu).2.1.toInt = vnw.toInt + j ∧ (X0_step_L14 qph qgr qap qle qfu qgd qri n i j k vne vnw vtk vwa vgi vlo vtu).2.2.1 = tk0 + (X1_step_L23 rph rgr rca rap rle rfu rba rru n i j k al wne vti wgi wpa).1 := by
  intro j; induction j with
  | zero =>
    intro k vne wne vnw vti vtk al vwa vgi vlo vtu wgi wpa hB hj h
    refine ⟨⟨fun q hq => ?_, hB.2.2.2.1⟩, hB.2.2.2.2.2.1, by show vnw.toInt = _; omega, h⟩
    rcases hB.2.2.1 q hq with x | x
    · exact Or.inl x
    · exact Or.inr ⟨x.1, x.2.1⟩
  | succ j ih =>
    intro k vne wne vnw vti vtk al vwa vgi vlo vtu wgi wpa hB hj h
    have hn := hB.1
    have hS := shares_eq (qwa := vwa) (qgi := vgi) (qlo := vlo) (qtu := vtu) (rgi := wgi) (rpa := wpa) hB hba hru
    have hN : NE n rca vne wne := ⟨fun q hq => by
      rcases hB.2.2.1 q hq with x | x
      · exact Or.inl x
      · exact Or.inr ⟨x.1, x.2.1⟩, hB.2.2.2.1⟩
    have hz : ∀ k, k < n → rca k = 0 → (X1_shares rph rgr rca wne rap rle rfu rba rru vti wgi wpa n).1 k = 0 := fun k hk hc => by
      refine shares_zero hn hk ?_
      have e1 : X1_reaches rph rgr rca wne rap rle vti (nI k) = 0 := by
        rw [X1_reaches, ck (by omega), if_pos hc, if_pos hc]; split <;> rfl
      rw [e1]; decide
    have hT := take_eq (i := i) (vtk := vtk) hn (fun k hk => (hB.2.1 k hk).1) hS.2.2.1 hS.2.1.1 hz n 0 vne wne vtk al (by omega) hN h
    have t0 := hB.2.2.2.2.2
    have e1 : (vnw + 1).toInt = vnw.toInt + 1 := i_add (a := vnw) (b := 1) (by rw [i_1]; omega) (by rw [i_1]; omega)
    have hB2 := RB_NE (vnw := vnw + 1) (vti := vti + 1) hB hT.1 ⟨by rw [t0.1], by omega, by omega⟩
    rw [X0_step_L14, X1_step_L23, X0_takeWhatIsGiven]
    dsimp only
    have := ih (k + 1) _ _ (vnw + 1) (vti + 1) _ _ (X0_shareCurrents qph qgr vne qap qle qfu qgd qri vnw vwa vgi vlo vtu n).1 (X0_shareCurrents qph qgr vne qap qle qfu qgd qri vnw vwa vgi vlo vtu n).2.1 (X0_shareCurrents qph qgr vne qap qle qfu qgd qri vnw vwa vgi vlo vtu n).2.2.1 (X0_shareCurrents qph qgr vne qap qle qfu qgd qri vnw vwa vgi vlo vtu n).2.2.2 (X1_shares rph rgr rca wne rap rle rfu rba rru vti wgi wpa n).1 (X1_shares rph rgr rca wne rap rle rfu rba rru vti wgi wpa n).2 hB2 (by omega) hT.2
    exact ⟨this.1, this.2.1, by rw [this.2.2.1, e1]; omega, this.2.2.2⟩
end
