/-- a park that calls have made, of n points, behind t of them -/
def Iv (t n : Nat) (qph qgr qne qap qle qfu : AR) (qpc qgd qri qnw : Int32) : Prop :=
  n ≤ 8 ∧ qpc = nI n ∧ (∀ k, k < n → (0 ≤ (qph k).toInt ∧ (qph k).toInt ≤ 3) ∧ 6 ≤ (qgr k).toInt ∧ (qgr k).toInt ≤ 32) ∧
  (∀ k, k < n → qne k = -1 ∨ ((0 ≤ (qne k).toInt ∧ (qne k).toInt ≤ 5000) ∧ (1 ≤ (qap k).toInt ∧ (qap k).toInt ≤ 32) ∧ 0 ≤ (qle k).toInt ∧ (qle k).toInt ≤ 600 * (t : Int))) ∧
  (∀ k, k < 3 → 0 ≤ (qfu k).toInt ∧ (qfu k).toInt ≤ 100) ∧ (0 ≤ qgd.toInt ∧ qgd.toInt ≤ 100) ∧ (qri = 0 ∨ qri = 1) ∧ 0 ≤ qnw.toInt ∧ qnw.toInt ≤ 50 * (t : Int)
def rcaOf (n : Nat) (qne : AR) : AR := fun k => if k < n ∧ ¬ qne k = -1 then 1 else 0
def rneOf (n : Nat) (qne : AR) : AR := fun k => if k < n ∧ ¬ qne k = -1 then qne k else 0
section
variable {t n : Nat} {qph qgr qne qap qle qfu : AR} {qpc qgd qri qnw qtk qsv : Int32}
theorem Iv.rel (h : Iv t n qph qgr qne qap qle qfu qpc qgd qri qnw) (qtk qsv : Int32) : Rel t n qph qgr qne qap qle qfu qpc qgd qri qnw qtk qsv qpc qph qgr (rcaOf n qne) (rneOf n qne) qap qle qfu qgd qri qnw qtk qsv := by
  obtain ⟨h8, hp, h2, h3, h4, h5, h6, h7⟩ := h
  refine ⟨⟨h8, hp, hp⟩, fun k hk => ⟨rfl, rfl, h2 k hk⟩, fun k hk => ?_, fun k hk => ?_, fun k hn hk => ?_, fun k hk => ⟨rfl, h4 k hk⟩, ⟨rfl, h5⟩, ⟨rfl, h6⟩, ⟨rfl, h7⟩, rfl, rfl⟩
  · unfold rcaOf rneOf
    by_cases c : qne k = -1
    · left; rw [if_neg (fun x => x.2 c)]; exact ⟨rfl, c⟩
    · right; rw [if_pos ⟨hk, c⟩, if_pos ⟨hk, c⟩]
      rcases h3 k hk with x | x
      · exact absurd x c
      · exact ⟨rfl, rfl, rfl, rfl, x.2.1, x.2.2⟩
  · unfold rneOf
    by_cases c : k < n ∧ ¬ qne k = -1
    · rw [if_pos c]
      rcases h3 k c.1 with x | x
      · exact absurd x c.2
      · exact x.1
    · rw [if_neg c]; decide
  · unfold rcaOf
    rw [if_neg (fun x => absurd x.1 (by omega))]
theorem Rel.iv {rpt : Int32} {rph rgr rca rne rap rle rfu : AR} {rba rru rti rtk rsv : Int32} (hR : Rel t n qph qgr qne qap qle qfu qpc qgd qri qnw qtk qsv rpt rph rgr rca rne rap rle rfu rba rru rti rtk rsv) : Iv t n qph qgr qne qap qle qfu qpc qgd qri qnw := by
  obtain ⟨⟨h8, hp, -⟩, c2, c3, c4, c5, c6, c7, c8, c9, -⟩ := hR
  refine ⟨h8, hp, fun k hk => (c2 k hk).2.2, fun k hk => ?_, fun k hk => (c6 k hk).2, c7.2, c8.2, c9.2⟩
  rcases c3 k hk with x | ⟨a, b, c, d, e, f⟩
  · exact Or.inl x.2
  · exact Or.inr ⟨by rw [b]; exact c4 k (by omega), e, f⟩
theorem Iv.mono {t' : Nat} (ht : t ≤ t') (h : Iv t n qph qgr qne qap qle qfu qpc qgd qri qnw) : Iv t' n qph qgr qne qap qle qfu qpc qgd qri qnw := by
  obtain ⟨h8, hp, h2, h3, h4, h5, h6, h7⟩ := h
  refine ⟨h8, hp, h2, fun k hk => ?_, h4, h5, h6, h7.1, by omega⟩
  rcases h3 k hk with x | x
  · exact Or.inl x
  · exact Or.inr ⟨x.1, x.2.1, x.2.2.1, by omega⟩
theorem Iv.pc (h : Iv t n qph qgr qne qap qle qfu qpc qgd qri qnw) : qpc = nI n := h.2.1
theorem Iv.n8 (h : Iv t n qph qgr qne qap qle qfu qpc qgd qri qnw) : n ≤ 8 := h.1
/-- what an answer is doesn't hang on what was worked out before -/
theorem ob_held (ht : t < 512) (h : Iv t n qph qgr qne qap qle qfu qpc qgd qri qnw) (wa gi lo tu wa' gi' lo' tu' : AR) : (X0_held qph qgr qne qap qle qfu qgd qri qnw wa gi lo tu n).1 = (X0_held qph qgr qne qap qle qfu qgd qri qnw wa' gi' lo' tu' n).1 :=
  (R_held wa gi lo tu wa gi 0 ht (h.rel 0 0)).1.trans (R_held wa' gi' lo' tu' wa gi 0 ht (h.rel 0 0)).1.symm
theorem ob_imbalance (ht : t < 512) (h : Iv t n qph qgr qne qap qle qfu qpc qgd qri qnw) (wa gi lo tu wa' gi' lo' tu' : AR) : (X0_imbalance qph qgr qne qap qle qfu qgd qri qnw wa gi lo tu n).1 = (X0_imbalance qph qgr qne qap qle qfu qgd qri qnw wa' gi' lo' tu' n).1 :=
  (R_imbalance wa gi lo tu wa gi 0 ht (h.rel 0 0)).1.trans (R_imbalance wa' gi' lo' tu' wa gi 0 ht (h.rel 0 0)).1.symm
theorem ob_current {i : Int32} (ht : t < 512) (h : Iv t n qph qgr qne qap qle qfu qpc qgd qri qnw) (hok : X0_current_T qpc n i = 0) (wa gi lo tu wa' gi' lo' tu' : AR) : (X0_current qph qgr qne qap qle qfu qpc qgd qri qnw wa gi lo tu n i).1 = (X0_current qph qgr qne qap qle qfu qpc qgd qri qnw wa' gi' lo' tu' n i).1 :=
  (R_current_ok wa gi lo tu wa gi 0 i ht (h.rel 0 0) hok).2.1.trans (R_current_ok wa' gi' lo' tu' wa gi 0 i ht (h.rel 0 0) hok).2.1.symm
theorem ob_load {i : Int32} (ht : t < 512) (h : Iv t n qph qgr qne qap qle qfu qpc qgd qri qnw) (hok : X0_load_T n i = 0) (wa gi lo tu wa' gi' lo' tu' : AR) : (X0_load qph qgr qne qap qle qfu qgd qri qnw wa gi lo tu n i).1 = (X0_load qph qgr qne qap qle qfu qgd qri qnw wa' gi' lo' tu' n i).1 :=
  (R_load_ok wa gi lo tu wa gi 0 i ht (h.rel 0 0) hok).2.1.trans (R_load_ok wa' gi' lo' tu' wa gi 0 i ht (h.rel 0 0) hok).2.1.symm
theorem ob_fairLevel {i : Int32} (ht : t < 512) (h : Iv t n qph qgr qne qap qle qfu qpc qgd qri qnw) (hok : X0_fairLevel_T n i = 0) (wa gi lo tu wa' gi' lo' tu' : AR) : (X0_fairLevel qph qgr qne qap qle qfu qgd qri qnw wa gi lo tu n i).1 = (X0_fairLevel qph qgr qne qap qle qfu qgd qri qnw wa' gi' lo' tu' n i).1 :=
  (R_fairLevel_ok wa gi lo tu wa gi 0 i ht (h.rel 0 0) hok).2.1.trans (R_fairLevel_ok wa' gi' lo' tu' wa gi 0 i ht (h.rel 0 0) hok).2.1.symm
end
theorem take_hi {qph gi : AR} {n q : Nat} (hn : n ≤ 8) (hq : n ≤ q) : ∀ (j k : Nat) (ne : AR) (tk : Int32), k + j ≤ n → (X0_takeWhatIsGiven_L2 qph gi n j k ne tk).1 q = ne q := by
  intro j; induction j with
  | zero => intro k ne tk _; rfl
  | succ j ih =>
    intro k ne tk hk
    rw [X0_takeWhatIsGiven_L2, ck (by omega)]
    split
    · exact ih _ _ _ (by omega)
    · split
      · rw [ih _ _ _ (by omega), upd_ne (by omega)]
      · rw [ih _ _ _ (by omega), upd_ne (by omega)]
theorem stepL_hi {qph qgr qap qle qfu : AR} {qgd qri i : Int32} {n q : Nat} (hn : n ≤ 8) (hq : n ≤ q) : ∀ (j k : Nat) (ne : AR) (nw tk : Int32) (wa gi lo tu : AR), (X0_step_L14 qph qgr qap qle qfu qgd qri n i j k ne nw tk wa gi lo tu).1 q = ne q := by
  intro j; induction j with
  | zero => intro k ne nw tk wa gi lo tu; rfl
  | succ j ih =>
    intro k ne nw tk wa gi lo tu
    rw [X0_step_L14, ih, X0_takeWhatIsGiven]
    dsimp only
    exact take_hi hn hq n 0 _ _ (by omega)
section
variable {t n : Nat} {qph qgr qne qap qle qfu : AR} {qpc qgd qri qnw qtk qsv : Int32}
theorem step_hi {i : Int32} {q : Nat} (hn : n ≤ 8) (hq : n ≤ q) (wa gi lo tu : AR) : (X0_step qph qgr qne qap qle qfu qgd qri qnw qtk wa gi lo tu n i).2.1 q = qne q := by
  rw [X0_step]
  split
  · exact stepL_hi hn hq _ _ _ _ _ _ _ _ _
  · rfl
theorem ob_step {i : Int32} (ht : t < 512) (h : Iv t n qph qgr qne qap qle qfu qpc qgd qri qnw) (hok : X0_step_T n i = 0) (wa gi lo tu wa' gi' lo' tu' : AR) :
    (X0_step qph qgr qne qap qle qfu qgd qri qnw qtk wa gi lo tu n i).1 = (X0_step qph qgr qne qap qle qfu qgd qri qnw qtk wa' gi' lo' tu' n i).1 ∧
    (X0_step qph qgr qne qap qle qfu qgd qri qnw qtk wa gi lo tu n i).2.1 = (X0_step qph qgr qne qap qle qfu qgd qri qnw qtk wa' gi' lo' tu' n i).2.1 ∧
    (X0_step qph qgr qne qap qle qfu qgd qri qnw qtk wa gi lo tu n i).2.2.1 = (X0_step qph qgr qne qap qle qfu qgd qri qnw qtk wa' gi' lo' tu' n i).2.2.1 ∧
    (X0_step qph qgr qne qap qle qfu qgd qri qnw qtk wa gi lo tu n i).2.2.2.1 = (X0_step qph qgr qne qap qle qfu qgd qri qnw qtk wa' gi' lo' tu' n i).2.2.2.1 := by
  obtain ⟨-, a1, a2, a3, a4, a5, a6, a7, a8, a9, a10, a11, a12⟩ := R_step_ok wa gi lo tu wa gi 0 i ht (h.rel qtk 0) hok
  obtain ⟨-, b1, b2, b3, b4, b5, b6, b7, b8, b9, b10, b11, b12⟩ := R_step_ok wa' gi' lo' tu' wa gi 0 i ht (h.rel qtk 0) hok
  refine ⟨a1.trans b1.symm, funext fun q => ?_, a10.1.symm.trans b10.1, a11.symm.trans b11⟩
  by_cases hq : q < n
  · rcases a4 q hq with x | x <;> rcases b4 q hq with y | y
    · rw [x.2, y.2]
    · rw [x.1] at y; exact absurd y.1 (by decide)
    · rw [y.1] at x; exact absurd x.1 (by decide)
    · rw [x.2.1, y.2.1]
  · rw [step_hi h.1 (by omega), step_hi h.1 (by omega)]
theorem Iv.point {f g : Int32} (ht : t < 512) (h : Iv t n qph qgr qne qap qle qfu qpc qgd qri qnw) (hok : X0_point_T qpc n f g = 0) : Iv (t + 1) (n + 1) (X0_point qph qgr qne qpc n f g).2.1 (X0_point qph qgr qne qpc n f g).2.2.1 (X0_point qph qgr qne qpc n f g).2.2.2.1 qap qle qfu (X0_point qph qgr qne qpc n f g).2.2.2.2 qgd qri qnw :=
  (R_point_ok qph qph qph qph qph qph 0 f g ht (h.rel 0 0) hok).2.2.iv
theorem Iv.plugIn {i nd x sp : Int32} (ht : t < 512) (h : Iv t n qph qgr qne qap qle qfu qpc qgd qri qnw) (hok : X0_plugIn_T qne qpc n i nd x sp = 0) : Iv (t + 1) n qph qgr (X0_plugIn qph qgr qne qap qle qpc qnw n i nd x sp).2.1 (X0_plugIn qph qgr qne qap qle qpc qnw n i nd x sp).2.2.1 (X0_plugIn qph qgr qne qap qle qpc qnw n i nd x sp).2.2.2 qfu qpc qgd qri qnw :=
  (R_plugIn_ok qph qph qph qph qph qph 0 i nd x sp ht (h.rel 0 0) hok).2.2.iv
theorem Iv.takeOut {i : Int32} (ht : t < 512) (h : Iv t n qph qgr qne qap qle qfu qpc qgd qri qnw) (hok : X0_takeOut_T qne qpc n i = 0) : Iv (t + 1) n qph qgr (X0_takeOut qne qpc qsv n i).2.1 qap qle qfu qpc qgd qri qnw :=
  (R_takeOut_ok (qsv := qsv) qph qph qph qph qph qph 0 i ht (h.rel 0 qsv) hok).2.2.iv
theorem Iv.step {i : Int32} (ht : t < 512) (h : Iv t n qph qgr qne qap qle qfu qpc qgd qri qnw) (hok : X0_step_T n i = 0) (wa gi lo tu : AR) : Iv (t + 1) n qph qgr (X0_step qph qgr qne qap qle qfu qgd qri qnw qtk wa gi lo tu n i).2.1 qap qle qfu qpc qgd qri (X0_step qph qgr qne qap qle qfu qgd qri qnw qtk wa gi lo tu n i).2.2.1 :=
  (R_step_ok wa gi lo tu wa gi 0 i ht (h.rel qtk 0) hok).2.2.iv
end
section
variable {n : Nat} {qph qgr qne qap qle qfu : AR} {qnw : Int32} {rph rgr rca rne rap rle rfu : AR} {rti : Int32}
theorem l42_nn {vne0 : AR} {vti rba rru i : Int32} {wgi wpa : AR} (hn : n ≤ 8) (hG : RG n (X1_shares rph rgr rca vne0 rap rle rfu rba rru vti wgi wpa n).1) : ∀ (j k : Nat) (bl : Int32) (wne : AR), k + j = n → (∀ q, q < 8 → 0 ≤ (wne q).toInt ∧ (wne q).toInt ≤ 5000) → 0 ≤ bl.toInt → bl.toInt + 96 * (j : Int) ≤ 1000000 →
    bl.toInt ≤ (X1_step_L42 rph rgr rca rap rle rfu rba rru n i vne0 vti wgi wpa j k bl wne).1.toInt ∧ (X1_step_L42 rph rgr rca rap rle rfu rba rru n i vne0 vti wgi wpa j k bl wne).1.toInt ≤ bl.toInt + 96 * (j : Int) := by
  intro j; induction j with
  | zero => intro k bl wne _ _ _ _; rw [X1_step_L42]; exact ⟨Int.le_refl _, by dsimp only; omega⟩
  | succ j ih =>
    intro k bl wne hk hw hb hs
    have hkn : k < n := by omega
    have hg := hG k hkn
    have hx := hw k (by omega)
    rw [X1_step_L42, ck (by omega)]
    generalize (X1_shares rph rgr rca vne0 rap rle rfu rba rru vti wgi wpa n).1 k = g at hg ⊢
    have hp : 0 ≤ (g * X1_times rph (nI k)).toInt ∧ (g * X1_times rph (nI k)).toInt ≤ 96 := by
      rcases RB_tm (rph := rph) (i := nI k) with e | e <;> rw [e, i_mul] <;> simp only [i_3, i_1] <;> omega
    generalize g * X1_times rph (nI k) = p at hp ⊢
    have step : ∀ d : Int32, 0 ≤ d.toInt → d.toInt ≤ 96 → d.toInt ≤ (wne k).toInt → bl.toInt ≤ (X1_step_L42 rph rgr rca rap rle rfu rba rru n i vne0 vti wgi wpa j (k + 1) (bl + d) (upd wne k (wne k - d))).1.toInt ∧ (X1_step_L42 rph rgr rca rap rle rfu rba rru n i vne0 vti wgi wpa j (k + 1) (bl + d) (upd wne k (wne k - d))).1.toInt ≤ bl.toInt + 96 * ((j : Int) + 1) := by
      intro d d0 d1 d2
      have e1 : (bl + d).toInt = bl.toInt + d.toInt := i_add (by omega) (by omega)
      have e2 : (wne k - d).toInt = (wne k).toInt - d.toInt := i_sub (by omega) (by omega)
      have := ih (k + 1) (bl + d) (upd wne k (wne k - d)) (by omega) (fun q hq => by
        by_cases z : q = k
        · subst z; rw [upd_at, e2]; omega
        · rw [upd_ne z]; exact hw q hq) (by rw [e1]; omega) (by rw [e1]; omega)
      rw [e1] at this
      omega
    have ej : ((j + 1 : Nat) : Int) = (j : Int) + 1 := by omega
    rw [ej]
    by_cases c : wne k ≤ p
    · rw [if_pos c]; rw [i_le] at c
      exact step (wne k) (by omega) (by omega) (Int.le_refl _)
    · rw [if_neg c]; rw [i_le] at c
      exact step p (by omega) (by omega) (by omega)
theorem l23_nn {qgd qri rba rru i : Int32} (hba : rba = qgd) (hru : rru = qri ∧ (qri = 0 ∨ qri = 1)) : ∀ (j k : Nat) (vne wne : AR) (vnw vti al : Int32) (wgi wpa : AR), RB n qph qgr vne qap qle qfu vnw rph rgr rca wne rap rle rfu vti → vnw.toInt + j ≤ 30000 → 0 ≤ al.toInt → al.toInt + 768 * (j : Int) ≤ 900000 →
    0 ≤ (X1_step_L23 rph rgr rca rap rle rfu rba rru n i j k al wne vti wgi wpa).1.toInt := by
  intro j; induction j with
  | zero => intro k vne wne vnw vti al wgi wpa hB hj h0 h1; exact h0
  | succ j ih =>
    intro k vne wne vnw vti al wgi wpa hB hj h0 h1
    have hn := hB.1
    have hS := shares_eq (qwa := wgi) (qgi := wgi) (qlo := wgi) (qtu := wgi) (rgi := wgi) (rpa := wpa) hB hba hru
    have hN : NE n rca vne wne := ⟨fun q hq => by
      rcases hB.2.2.1 q hq with x | x
      · exact Or.inl x
      · exact Or.inr ⟨x.1, x.2.1⟩, hB.2.2.2.1⟩
    have hz : ∀ k, k < n → rca k = 0 → (X1_shares rph rgr rca wne rap rle rfu rba rru vti wgi wpa n).1 k = 0 := fun k hk hc => by
      refine shares_zero hn hk ?_
      have e1 : X1_reaches rph rgr rca wne rap rle vti (nI k) = 0 := by
        rw [X1_reaches, ck (by omega), if_pos hc, if_pos hc]; split <;> rfl
      rw [e1]; decide
    have hT := take_eq (i := i) (vtk := al) (tk0 := 0) hn (fun k hk => (hB.2.1 k hk).1) hS.2.2.1 hS.2.1.1 hz n 0 vne wne al al (by omega) hN (by grind)
    have hL := l42_nn (i := i) hn hS.2.2.1 n 0 al wne (by omega) hN.2 h0 (by omega)
    have t0 := hB.2.2.2.2.2
    have e1 : (vnw + 1).toInt = vnw.toInt + 1 := i_add (a := vnw) (b := 1) (by rw [i_1]; omega) (by rw [i_1]; omega)
    have hB2 := RB_NE (vnw := vnw + 1) (vti := vti + 1) hB hT.1 ⟨by rw [t0.1], by omega, by omega⟩
    rw [X1_step_L23]
    exact ih (k + 1) _ _ (vnw + 1) (vti + 1) _ _ _ hB2 (by omega) (by omega) (by omega)
end
theorem step_nn {t n : Nat} {qph qgr qne qap qle qfu : AR} {qpc qgd qri qnw qtk : Int32} {i : Int32} (ht : t < 512) (h : Iv t n qph qgr qne qap qle qfu qpc qgd qri qnw) (hok : X0_step_T n i = 0) (wa gi lo tu : AR) : ¬ (X0_step qph qgr qne qap qle qfu qgd qri qnw qtk wa gi lo tu n i).1 < 0 := by
  have hR := h.rel qtk 0
  have e := (R_step_ok wa gi lo tu wa gi 0 i ht hR hok).2.1
  have hB := Rel.rb (by omega) hR
  obtain ⟨c1, c2, c3, c4, c5, c6, c7, c8, c9, c10, c11⟩ := hR
  rw [X0_step_T] at hok; simp only [rw_in] at hok
  have a : ¬ X1_isIn i 1 50 = 0 := fun c => by simp [c] at hok
  have h50 := isIn_50 a
  have hL := l23_nn (i := i) c7.1 c8 i.toNatClampNeg 0 qne (rneOf n qne) qnw qnw 0 wa gi hB (by omega) (Int.le_refl _) (by rw [i_0]; omega)
  rw [e, X1_step, if_neg a]
  intro c
  rw [i_lt, i_0] at c
  exact absurd c (Int.not_lt.mpr hL)
