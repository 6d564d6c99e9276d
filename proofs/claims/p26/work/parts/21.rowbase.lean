theorem in_iff {x lo hi : Int32} : ¬ X1_isIn x lo hi = 0 ↔ lo.toInt ≤ x.toInt ∧ x.toInt ≤ hi.toInt :=
  ⟨isIn_ne, fun h c => by rcases isIn_eq c with d | d <;> omega⟩
theorem rw_in {x lo hi : Int32} : X0_requireWithin_T x lo hi = 0 ↔ ¬ X1_isIn x lo hi = 0 := by
  rw [in_iff, X0_requireWithin_T]
  have n1 : ¬ (1 : Int32) = 0 := by decide
  by_cases a : x < lo
  · rw [if_pos a]; rw [i_lt] at a; exact ⟨fun h => absurd h n1, fun h => by omega⟩
  · rw [if_neg a]; rw [i_lt] at a
    by_cases b : x ≤ hi
    · rw [if_pos b]; rw [i_le] at b; exact ⟨fun _ => by omega, fun _ => rfl⟩
    · rw [if_neg b]; rw [i_le] at b; exact ⟨fun h => absurd h n1, fun h => by omega⟩
theorem i_2 : (2 : Int32).toInt = 2 := rfl
theorem rph_in {f : Int32} : X0_requirePhase_T f = 0 ↔ ¬ X1_isIn f 0 2 = 0 := by
  rw [in_iff, X0_requirePhase_T, i_0, i_2]
  have n1 : ¬ (1 : Int32) = 0 := by decide
  by_cases a : f < 0
  · rw [if_pos a]; rw [i_lt, i_0] at a; exact ⟨fun h => absurd h n1, fun h => by omega⟩
  · rw [if_neg a]; rw [i_lt, i_0] at a
    by_cases b : f < 3
    · rw [if_pos b]; rw [i_lt, i_3] at b; exact ⟨fun _ => by omega, fun _ => rfl⟩
    · rw [if_neg b]; rw [i_lt, i_3] at b; exact ⟨fun h => absurd h n1, fun h => by omega⟩
theorem nat_in {x : Int32} {m : Nat} (h0 : 0 ≤ x.toInt) (h1 : x.toInt < m) (hm : m ≤ 8) : ∃ k, k < m ∧ x = nI k := by
  refine ⟨x.toInt.toNat, by omega, ?_⟩
  apply Int32.toInt_inj.mp
  rw [nI_toInt (by omega)]; omega
theorem ph_nat {f : Int32} (h : ¬ X1_isIn f 0 2 = 0) : ∃ k, k < 3 ∧ f = nI k := by
  have := in_iff.mp h
  rw [i_0, i_2] at this
  exact nat_in (by omega) (by omega) (by omega)
theorem pt_iff {i : Int32} {n : Nat} (h8 : n ≤ 8) : X0_requirePoint_T (nI n) i = 0 ↔ ∃ k, k < n ∧ i = nI k := by
  rw [X0_requirePoint_T]
  have n1 : ¬ (1 : Int32) = 0 := by decide
  have en := nI_toInt (n := n) (by omega)
  by_cases a : i < 0
  · rw [if_pos a]; rw [i_lt, i_0] at a
    refine ⟨fun h => absurd h n1, fun ⟨k, hk, e⟩ => ?_⟩
    rw [e, nI_toInt (by omega)] at a; omega
  · rw [if_neg a]; rw [i_lt, i_0] at a
    by_cases b : i < nI n
    · rw [if_pos b]; rw [i_lt, en] at b
      exact ⟨fun _ => nat_in (by omega) b h8, fun _ => rfl⟩
    · rw [if_neg b]; rw [i_lt, en] at b
      refine ⟨fun h => absurd h n1, fun ⟨k, hk, e⟩ => ?_⟩
      rw [e, nI_toInt (by omega)] at b; omega
theorem pt_hi {n : Nat} (h8 : n ≤ 8) : (nI n - 1).toInt = (n : Int) - 1 := by
  rw [i_sub (by rw [nI_toInt (by omega), i_1]; omega) (by rw [nI_toInt (by omega), i_1]; omega), nI_toInt (by omega), i_1]
theorem isPt_yes {k n : Nat} (h8 : n ≤ 8) (h : k < n) : X1_isPoint (nI n) (nI k) = (1, 0) := by
  have a : ¬ X1_isIn (nI k) 0 (nI n - 1) = 0 := in_iff.mpr (by rw [i_0, nI_toInt (by omega), pt_hi h8]; omega)
  rw [X1_isPoint, if_neg a]
theorem isPt_no {i : Int32} {n : Nat} (h8 : n ≤ 8) (h : ¬ ∃ k, k < n ∧ i = nI k) : X1_isPoint (nI n) i = (0, 1) := by
  have a : X1_isIn i 0 (nI n - 1) = 0 := by
    by_cases c : X1_isIn i 0 (nI n - 1) = 0
    · exact c
    · have d := in_iff.mp c
      rw [i_0, pt_hi h8] at d
      exact absurd (nat_in (by omega) (by omega) h8) h
  rw [X1_isPoint, if_pos a]
section
variable {t n : Nat} {qph qgr qne qap qle qfu : AR} {qpc qgd qri qnw qtk qsv rpt : Int32} {rph rgr rca rne rap rle rfu : AR} {rba rru rti rtk rsv : Int32}
theorem Rel.rb (ht : t ≤ 512) (hR : Rel t n qph qgr qne qap qle qfu qpc qgd qri qnw qtk qsv rpt rph rgr rca rne rap rle rfu rba rru rti rtk rsv) : RB n qph qgr qne qap qle qfu qnw rph rgr rca rne rap rle rfu rti := by
  obtain ⟨⟨h8, hq, hr⟩, c2, c3, c4, c5, c6, c7, c8, c9, c10, c11⟩ := hR
  refine ⟨h8, c2, fun k hk => ?_, c4, c6, c9.1, c9.2.1, by have := c9.2.2; omega⟩
  rcases c3 k hk with a | ⟨a, b, c, d, e, f, g⟩
  · exact Or.inl a
  · exact Or.inr ⟨a, b, c, d, e, f, by omega⟩
theorem Rel.car (hR : Rel t n qph qgr qne qap qle qfu qpc qgd qri qnw qtk qsv rpt rph rgr rca rne rap rle rfu rba rru rti rtk rsv) {k : Nat} (hk : k < n) : X0_hasCar qne (nI k) = 0 ↔ rca k = 0 := by
  obtain ⟨⟨h8, hq, hr⟩, c2, c3, c4, -⟩ := hR
  have n1 : ¬ (1 : Int32) = 0 := by decide
  rw [X0_hasCar, ck (by omega)]
  rcases c3 k hk with ⟨a, b⟩ | ⟨a, b, -⟩
  · rw [b, if_pos rfl]; exact ⟨fun _ => a, fun _ => rfl⟩
  · have d := c4 k (by omega)
    have e : ¬ qne k = -1 := fun e => by rw [b] at e; rw [e, i_m1] at d; omega
    rw [if_neg e, a]
theorem Rel.rcar (hR : Rel t n qph qgr qne qap qle qfu qpc qgd qri qnw qtk qsv rpt rph rgr rca rne rap rle rfu rba rru rti rtk rsv) {k : Nat} (hk : k < n) : X0_requireCar_T qne (nI k) = 0 ↔ ¬ rca k = 0 := by
  rw [X0_requireCar_T]
  have n1 : ¬ (1 : Int32) = 0 := by decide
  by_cases c : rca k = 0
  · rw [if_pos ((Rel.car hR hk).mpr c)]; exact ⟨fun h => absurd h n1, fun h => absurd c h⟩
  · rw [if_neg (fun x => c ((Rel.car hR hk).mp x))]; exact ⟨fun _ => c, fun _ => rfl⟩
end
theorem upd_at {f : AR} {k : Nat} {v : Int32} : upd f k v k = v := by unfold upd; rw [if_pos rfl]
theorem upd_ne {f : AR} {k q : Nat} {v : Int32} (h : q ≠ k) : upd f k v q = f q := by unfold upd; rw [if_neg h]
theorem pcase {t n : Nat} {qph qgr qne qap qle qfu : AR} {qpc qgd qri qnw qtk qsv rpt : Int32} {rph rgr rca rne rap rle rfu : AR} {rba rru rti rtk rsv : Int32} (hR : Rel t n qph qgr qne qap qle qfu qpc qgd qri qnw qtk qsv rpt rph rgr rca rne rap rle rfu rba rru rti rtk rsv) (i : Int32) : (∃ k, k < n ∧ i = nI k ∧ X0_requirePoint_T qpc i = 0 ∧ X1_isPoint rpt i = (1, 0) ∧ i.toNatClampNeg = k) ∨ (¬ X0_requirePoint_T qpc i = 0 ∧ X1_isPoint rpt i = (0, 1)) := by
  obtain ⟨h8, hq, hr⟩ := hR.1
  rw [hq, hr]
  by_cases P : ∃ k, k < n ∧ i = nI k
  · obtain ⟨k, hk, rfl⟩ := P
    exact Or.inl ⟨k, hk, rfl, (pt_iff h8).mpr ⟨k, hk, rfl⟩, isPt_yes h8 hk, ck (by omega)⟩
  · exact Or.inr ⟨fun c => P ((pt_iff h8).mp c), isPt_no h8 P⟩
theorem pz : ¬ ((1 : Int32), (0 : Int32)).1 = 0 := by decide
theorem po : ((0 : Int32), (1 : Int32)).1 = 0 := rfl
section
variable {n : Nat} {qph qgr qne qap qle qfu : AR} {qnw : Int32} {rph rgr rca rne rap rle rfu : AR} {rti : Int32}
theorem held_eq {qgd qri rba rru : Int32} {qwa qgi qlo qtu rgi rpa : AR} (hB : RB n qph qgr qne qap qle qfu qnw rph rgr rca rne rap rle rfu rti) (hba : rba = qgd) (hru : rru = qri ∧ (qri = 0 ∨ qri = 1)) : ∀ (j k : Nat) (se : Int32), k + j = n → X0_held_L8 qph qgr qne qap qle qfu qgd qri qnw qwa qgi qlo qtu n j k se = X1_held_L13 rph rgr rca rne rap rle rfu rba rru rti rgi rpa n j k se := by
  have hn := hB.1
  have hS := shares_eq (qwa := qwa) (qgi := qgi) (qlo := qlo) (qtu := qtu) (rgi := rgi) (rpa := rpa) hB hba hru
  intro j; induction j with
  | zero => intro k se _; rfl
  | succ j ih =>
    intro k se hk
    rw [X0_held_L8, X1_held_L13, ck (by omega), hS.1 k (by omega), hS.2.1.1 k (by omega), ih _ _ (by omega), ih _ _ (by omega), Int32.or_zero]
theorem ready_eq (hB : RB n qph qgr qne qap qle qfu qnw rph rgr rca rne rap rle rfu rti) : ∀ (j k : Nat) (is_ : Int32), k + j = n → (is_ = 0 ∨ is_ = 1) → X1_canBeReady_L9 rph rgr rca rne rap rle rti n j k is_ = if is_ = 0 then 0 else X0_canBeReady_L2 qph qgr qne qap qle qnw n j k := by
  have hn := hB.1
  intro j; induction j with
  | zero =>
    intro k is_ _ h
    rw [X1_canBeReady_L9, X0_canBeReady_L2]
    rcases h with h | h
    · rw [if_pos h, h]
    · rw [if_neg (by rw [h]; decide), h]
  | succ j ih =>
    intro k is_ hk h
    have a1 : is_ &&& 1 = is_ := by rcases h with h | h <;> rw [h] <;> decide
    have a0 : is_ &&& 0 = 0 := by rcases h with h | h <;> rw [h] <;> decide
    rw [X1_canBeReady_L9, X0_canBeReady_L2, ck (by omega), a1, a0, ih _ is_ (by omega) h, ih _ 0 (by omega) (Or.inl rfl), if_pos rfl]
    by_cases c : rca k = 0
    · rw [if_pos c]
      rcases hB.2.2.1 k (by omega) with x | x
      · rw [x.2, if_pos (by decide : (-1 : Int32) ≤ 0)]
      · rw [c] at x; exact absurd x.1 (by decide)
    · rw [if_neg c]
      have hl := RB_lax hB (k := k) (by omega) c
      have hr := hB.2.2.2.1 k (by omega)
      rcases hB.2.2.1 k (by omega) with x | ⟨-, x, -⟩
      · exact absurd x.1 c
      rw [x, hl]
      by_cases z : rne k = 0
      · rw [if_pos z, z, if_pos (by decide : (0 : Int32) ≤ 0)]
      · have z2 : ¬ rne k ≤ 0 := fun y => z (Int32.toInt_inj.mp (by rw [i_le, i_0] at y; rw [i_0]; omega))
        rw [if_neg z, if_neg z2]
        by_cases w : X1_lax rph rgr rne rap rle rti (nI k) < 0
        · have w2 : ¬ 0 ≤ X1_lax rph rgr rne rap rle rti (nI k) := by grind
          rw [if_pos w, if_neg w2]; split <;> rfl
        · have w2 : 0 ≤ X1_lax rph rgr rne rap rle rti (nI k) := by grind
          rw [if_neg w, if_pos w2]
end
