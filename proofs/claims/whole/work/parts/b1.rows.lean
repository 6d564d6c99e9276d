theorem RR_point_ok {t n : Nat} {qph : AR} {qgr : AR} {qne : AR} {qap : AR} {qle : AR} {qfu : AR} {qpc : Int32} {qgd : Int32} {qri : Int32} {qnw : Int32} {qtk : Int32} {qsv : Int32} {rpt : Int32} {rph : AR} {rgr : AR} {rca : AR} {rne : AR} {rap : AR} {rle : AR} {rfu : AR} {rba : Int32} {rru : Int32} {rti : Int32} {rtk : Int32} {rsv : Int32} (qwa qgi qlo qtu rgi rpa : AR) (rth : Int32) (i1 : Int32) (i2 : Int32) (ht : t < 512) (hR : Rel t n qph qgr qne qap qle qfu qpc qgd qri qnw qtk qsv rpt rph rgr rca rne rap rle rfu rba rru rti rtk rsv) (hok : (X0_point_T qpc n i1 i2) = 0) : ((X1_point rpt rph rgr n i1 i2).2.2.2.2) = 0 ∧ ((X0_point qph qgr qne qpc n i1 i2).1) = ((X1_point rpt rph rgr n i1 i2).1) ∧ Rel (t + 1) (n + 1) ((X0_point qph qgr qne qpc n i1 i2).2.1) ((X0_point qph qgr qne qpc n i1 i2).2.2.1) ((X0_point qph qgr qne qpc n i1 i2).2.2.2.1) qap qle qfu ((X0_point qph qgr qne qpc n i1 i2).2.2.2.2) qgd qri qnw qtk qsv ((X1_point rpt rph rgr n i1 i2).2.1) ((X1_point rpt rph rgr n i1 i2).2.2.1) ((X1_point rpt rph rgr n i1 i2).2.2.2.1) rca rne rap rle rfu rba rru rti rtk rsv := by
  have hT := hok
  obtain ⟨⟨h8, hq, hr⟩, c2, c3, c4, c5, c6, c7, c8, c9, c10, c11⟩ := Rel.up hR
  subst hq; subst hr
  have n1 : ¬ (1 : Int32) = 0 := by decide
  have n2 : ¬ (2 : Int32) = 0 := by decide
  have e8 : (nI n < 8) ↔ n < 8 := nI_ltI (b := 8) (by omega) (by omega)
  have key : (0 ≤ i1.toInt ∧ i1.toInt ≤ 3) ∧ X0_requireWithin_T i2 6 32 = 0 ∧ n < 8 := by
    rw [X0_point_T] at hok
    by_cases a : i1 = 3
    · rw [if_pos a] at hok
      by_cases b : X0_requireWithin_T i2 6 32 = 0
      · rw [if_pos b] at hok
        by_cases c : nI n < 8
        · exact ⟨by rw [a, i_3]; omega, b, e8.mp c⟩
        · rw [if_neg c] at hok; exact absurd hok n2
      · rw [if_neg b] at hok; exact absurd hok n1
    · rw [if_neg a] at hok
      by_cases d : X0_requirePhase_T i1 = 0
      · rw [if_pos d] at hok
        by_cases b : X0_requireWithin_T i2 6 32 = 0
        · rw [if_pos b] at hok
          by_cases c : nI n < 8
          · have q := in_iff.mp (rph_in.mp d)
            rw [i_0, i_2] at q
            exact ⟨by omega, b, e8.mp c⟩
          · rw [if_neg c] at hok; exact absurd hok n2
        · rw [if_neg b] at hok; exact absurd hok n1
      · rw [if_neg d] at hok; exact absurd hok n1
  obtain ⟨k1, k2, k3⟩ := key
  have k2' := rw_in.mp k2
  have k1' : ¬ X1_isIn i1 0 3 = 0 := in_iff.mpr (by rw [i_0, i_3]; exact k1)
  have n8 : ¬ nI n = 8 := fun c => by have := (nI_inj8 (a := n) (b := 8) (by omega) (by omega)).mp c; omega
  have en : (nI n).toNatClampNeg = n := ck k3
  have A : X0_point qph qgr qne (nI n) n i1 i2 = (nI n, upd qph n i1, upd qgr n i2, upd qne n (-1), nI n + 1) := by
    rw [X0_point, if_pos k2, if_pos (e8.mpr k3), en]
    by_cases a : i1 = 3
    · rw [if_pos a]
    · rw [if_neg a, if_pos]
      refine rph_in.mpr (in_iff.mpr ?_)
      rw [i_0, i_2]
      have : i1.toInt ≠ 3 := fun c => a (Int32.toInt_inj.mp (by rw [c, i_3]))
      omega
  have B : X1_point (nI n) rph rgr n i1 i2 = ((nI n + 1) - 1, nI n + 1, upd rph n i1, upd rgr n i2, 0) := by
    rw [X1_point, if_neg k1', if_neg k2', if_neg n8, en]
  rw [A, B]
  have q2 := in_iff.mp k2'
  refine ⟨rfl, by show nI n = nI n + 1 - 1; grind, ⟨by omega, nI_1 n, nI_1 n⟩, fun k hk => ?_, fun k hk => ?_, c4, fun k a b => c5 k (by omega) b, c6, c7, c8, c9, c10, c11⟩
  · by_cases e : k = n
    · subst e; dsimp only; rw [upd_at, upd_at, upd_at, upd_at]; exact ⟨rfl, rfl, k1, q2⟩
    · dsimp only; rw [upd_ne e, upd_ne e, upd_ne e, upd_ne e]; exact c2 k (by omega)
  · by_cases e : k = n
    · subst e; dsimp only; rw [upd_at]; exact Or.inl ⟨c5 k (Nat.le_refl _) k3, rfl⟩
    · dsimp only; rw [upd_ne e]; exact c3 k (by omega)
theorem RR_point_bad {t n : Nat} {qph : AR} {qgr : AR} {qne : AR} {qap : AR} {qle : AR} {qfu : AR} {qpc : Int32} {qgd : Int32} {qri : Int32} {qnw : Int32} {qtk : Int32} {qsv : Int32} {rpt : Int32} {rph : AR} {rgr : AR} {rca : AR} {rne : AR} {rap : AR} {rle : AR} {rfu : AR} {rba : Int32} {rru : Int32} {rti : Int32} {rtk : Int32} {rsv : Int32} (qwa qgi qlo qtu rgi rpa : AR) (rth : Int32) (i1 : Int32) (i2 : Int32) (ht : t < 512) (hR : Rel t n qph qgr qne qap qle qfu qpc qgd qri qnw qtk qsv rpt rph rgr rca rne rap rle rfu rba rru rti rtk rsv) (hbad : ¬ (X0_point_T qpc n i1 i2) = 0) : ((X1_point rpt rph rgr n i1 i2).2.2.2.2) = (X0_point_T qpc n i1 i2) ∧ Rel (t + 1) n qph qgr qne qap qle qfu qpc qgd qri qnw qtk qsv ((X1_point rpt rph rgr n i1 i2).2.1) ((X1_point rpt rph rgr n i1 i2).2.2.1) ((X1_point rpt rph rgr n i1 i2).2.2.2.1) rca rne rap rle rfu rba rru rti rtk rsv := by
  have hU := Rel.up hR
  have hq := hR.1.2.1
  have hr := hR.1.2.2
  have h8 := hR.1.1
  subst hq; subst hr
  have e8 : (nI n < 8) ↔ n < 8 := nI_ltI (b := 8) (by omega) (by omega)
  rw [X0_point_T] at hbad ⊢
  have e3 : X1_isIn i1 0 3 = 0 ↔ ¬ (i1 = 3 ∨ X0_requirePhase_T i1 = 0) := by
    constructor
    · intro h c
      rcases isIn_eq h with d | d <;> rcases c with c | c
      · rw [c, i_0, i_3] at d; omega
      · have := in_iff.mp (rph_in.mp c); omega
      · rw [c, i_3] at d; omega
      · have := in_iff.mp (rph_in.mp c); rw [i_3] at d; rw [i_2] at this; omega
    · intro h
      by_cases c : X1_isIn i1 0 3 = 0
      · exact c
      · exfalso; apply h
        have d := in_iff.mp c
        rw [i_0, i_3] at d
        by_cases e : i1.toInt = 3
        · exact Or.inl (Int32.toInt_inj.mp (by rw [e, i_3]))
        · exact Or.inr (rph_in.mpr (in_iff.mpr (by rw [i_0, i_2]; omega)))
  by_cases a : X1_isIn i1 0 3 = 0
  · have b := e3.mp a
    rw [X1_point, if_pos a, if_neg (fun c => b (Or.inl c)), if_neg (fun c => b (Or.inr c))]
    exact ⟨rfl, hU⟩
  · have b : i1 = 3 ∨ X0_requirePhase_T i1 = 0 := by
      by_cases c : i1 = 3 ∨ X0_requirePhase_T i1 = 0
      · exact c
      · exact absurd (e3.mpr c) a
    by_cases d : X1_isIn i2 6 32 = 0
    · have f : ¬ X0_requireWithin_T i2 6 32 = 0 := fun x => rw_in.mp x d
      rw [X1_point, if_neg a, if_pos d, if_neg f]
      refine ⟨?_, hU⟩
      rcases b with b | b
      · rw [if_pos b]
      · rw [if_pos b]; split <;> rfl
    · have f : X0_requireWithin_T i2 6 32 = 0 := rw_in.mpr d
      rw [if_pos f] at hbad
      rw [X1_point, if_neg a, if_neg d, if_pos f]
      by_cases g : nI n < 8
      · exfalso; apply hbad
        rw [if_pos g]
        rcases b with b | b
        · rw [if_pos b]
        · rw [if_pos b]; split <;> rfl
      · have n8 : nI n = 8 := by
          have : n = 8 := by
            rcases Nat.lt_or_ge n 8 with z | z
            · exact absurd (e8.mpr z) g
            · omega
          rw [this]; rfl
        rw [if_pos n8, if_neg g]
        refine ⟨?_, hU⟩
        rcases b with b | b
        · rw [if_pos b]
        · rw [if_pos b]; split <;> rfl
