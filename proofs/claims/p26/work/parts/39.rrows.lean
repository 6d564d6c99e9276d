theorem R_point_ok {t n : Nat} {qph : AR} {qgr : AR} {qne : AR} {qap : AR} {qle : AR} {qfu : AR} {qpc : Int32} {qgd : Int32} {qri : Int32} {qnw : Int32} {qtk : Int32} {qsv : Int32} {rpt : Int32} {rph : AR} {rgr : AR} {rca : AR} {rne : AR} {rap : AR} {rle : AR} {rfu : AR} {rba : Int32} {rru : Int32} {rti : Int32} {rtk : Int32} {rsv : Int32} (qwa qgi qlo qtu rgi rpa : AR) (rth : Int32) (i1 : Int32) (i2 : Int32) (ht : t < 512) (hR : Rel t n qph qgr qne qap qle qfu qpc qgd qri qnw qtk qsv rpt rph rgr rca rne rap rle rfu rba rru rti rtk rsv) (hok : (X0_point_T qpc n i1 i2) = 0) : ((X1_point rpt rph rgr n i1 i2).2.2.2.2) = 0 ∧ ((X0_point qph qgr qne qpc n i1 i2).1) = ((X1_point rpt rph rgr n i1 i2).1) ∧ Rel (t + 1) (n + 1) ((X0_point qph qgr qne qpc n i1 i2).2.1) ((X0_point qph qgr qne qpc n i1 i2).2.2.1) ((X0_point qph qgr qne qpc n i1 i2).2.2.2.1) qap qle qfu ((X0_point qph qgr qne qpc n i1 i2).2.2.2.2) qgd qri qnw qtk qsv ((X1_point rpt rph rgr n i1 i2).2.1) ((X1_point rpt rph rgr n i1 i2).2.2.1) ((X1_point rpt rph rgr n i1 i2).2.2.2.1) rca rne rap rle rfu rba rru rti rtk rsv := by
  have hT := hok
  obtain ⟨⟨h8, hq, hr⟩, c2, c3, c4, c5, c6, c7, c8, c9, c10, c11⟩ := Rel.up hR
  subst hq; subst hr
  have n1 : ¬ (1 : Int32) = 0 := by decide
  have n2 : ¬ (2 : Int32) = 0 := by decide
  have e8 : (nI n < 8) ↔ n < 8 := nI_ltI (b := 8) (by omega) (by omega)
  have key : (0 ≤ i1.toInt ∧ i1.toInt ≤ 3) ∧ X0_requireWithin_T i2 6 32 = 0 ∧ n < 8 := by
    rw [X0_point_T] at hok
    by_cases a : i1 = 3
    · rw [if_pos a] at hok
      by_cases b : X0_requireWithin_T i2 6 32 = 0
      · rw [if_pos b] at hok
        by_cases c : nI n < 8
        · exact ⟨by rw [a, i_3]; omega, b, e8.mp c⟩
        · rw [if_neg c] at hok; exact absurd hok n2
      · rw [if_neg b] at hok; exact absurd hok n1
    · rw [if_neg a] at hok
      by_cases d : X0_requirePhase_T i1 = 0
      · rw [if_pos d] at hok
        by_cases b : X0_requireWithin_T i2 6 32 = 0
        · rw [if_pos b] at hok
          by_cases c : nI n < 8
          · have q := in_iff.mp (rph_in.mp d)
            rw [i_0, i_2] at q
            exact ⟨by omega, b, e8.mp c⟩
          · rw [if_neg c] at hok; exact absurd hok n2
        · rw [if_neg b] at hok; exact absurd hok n1
      · rw [if_neg d] at hok; exact absurd hok n1
  obtain ⟨k1, k2, k3⟩ := key
  have k2' := rw_in.mp k2
  have k1' : ¬ X1_isIn i1 0 3 = 0 := in_iff.mpr (by rw [i_0, i_3]; exact k1)
  have n8 : ¬ nI n = 8 := fun c => by have := (nI_inj8 (a := n) (b := 8) (by omega) (by omega)).mp c; omega
  have en : (nI n).toNatClampNeg = n := ck k3
  have A : X0_point qph qgr qne (nI n) n i1 i2 = (nI n, upd qph n i1, upd qgr n i2, upd qne n (-1), nI n + 1) := by
    rw [X0_point, if_pos k2, if_pos (e8.mpr k3), en]
    by_cases a : i1 = 3
    · rw [if_pos a]
    · rw [if_neg a, if_pos]
      refine rph_in.mpr (in_iff.mpr ?_)
      rw [i_0, i_2]
      have : i1.toInt ≠ 3 := fun c => a (Int32.toInt_inj.mp (by rw [c, i_3]))
      omega
  have B : X1_point (nI n) rph rgr n i1 i2 = ((nI n + 1) - 1, nI n + 1, upd rph n i1, upd rgr n i2, 0) := by
    rw [X1_point, if_neg k1', if_neg k2', if_neg n8, en]
  rw [A, B]
  have q2 := in_iff.mp k2'
  refine ⟨rfl, by show nI n = nI n + 1 - 1; grind, ⟨by omega, nI_1 n, nI_1 n⟩, fun k hk => ?_, fun k hk => ?_, c4, fun k a b => c5 k (by omega) b, c6, c7, c8, c9, c10, c11⟩
  · by_cases e : k = n
    · subst e; dsimp only; rw [upd_at, upd_at, upd_at, upd_at]; exact ⟨rfl, rfl, k1, q2⟩
    · dsimp only; rw [upd_ne e, upd_ne e, upd_ne e, upd_ne e]; exact c2 k (by omega)
  · by_cases e : k = n
    · subst e; dsimp only; rw [upd_at]; exact Or.inl ⟨c5 k (Nat.le_refl _) k3, rfl⟩
    · dsimp only; rw [upd_ne e]; exact c3 k (by omega)
theorem R_point_bad {t n : Nat} {qph : AR} {qgr : AR} {qne : AR} {qap : AR} {qle : AR} {qfu : AR} {qpc : Int32} {qgd : Int32} {qri : Int32} {qnw : Int32} {qtk : Int32} {qsv : Int32} {rpt : Int32} {rph : AR} {rgr : AR} {rca : AR} {rne : AR} {rap : AR} {rle : AR} {rfu : AR} {rba : Int32} {rru : Int32} {rti : Int32} {rtk : Int32} {rsv : Int32} (qwa qgi qlo qtu rgi rpa : AR) (rth : Int32) (i1 : Int32) (i2 : Int32) (ht : t < 512) (hR : Rel t n qph qgr qne qap qle qfu qpc qgd qri qnw qtk qsv rpt rph rgr rca rne rap rle rfu rba rru rti rtk rsv) (hbad : ¬ (X0_point_T qpc n i1 i2) = 0) : ((X1_point rpt rph rgr n i1 i2).2.2.2.2) = (X0_point_T qpc n i1 i2) ∧ Rel (t + 1) n qph qgr qne qap qle qfu qpc qgd qri qnw qtk qsv ((X1_point rpt rph rgr n i1 i2).2.1) ((X1_point rpt rph rgr n i1 i2).2.2.1) ((X1_point rpt rph rgr n i1 i2).2.2.2.1) rca rne rap rle rfu rba rru rti rtk rsv := by
  have hU := Rel.up hR
  have hq := hR.1.2.1
  have hr := hR.1.2.2
  have h8 := hR.1.1
  subst hq; subst hr
  have e8 : (nI n < 8) ↔ n < 8 := nI_ltI (b := 8) (by omega) (by omega)
  rw [X0_point_T] at hbad ⊢
  have e3 : X1_isIn i1 0 3 = 0 ↔ ¬ (i1 = 3 ∨ X0_requirePhase_T i1 = 0) := by
    constructor
    · intro h c
      rcases isIn_eq h with d | d <;> rcases c with c | c
      · rw [c, i_0, i_3] at d; omega
      · have := in_iff.mp (rph_in.mp c); omega
      · rw [c, i_3] at d; omega
      · have := in_iff.mp (rph_in.mp c); rw [i_3] at d; rw [i_2] at this; omega
    · intro h
      by_cases c : X1_isIn i1 0 3 = 0
      · exact c
      · exfalso; apply h
        have d := in_iff.mp c
        rw [i_0, i_3] at d
        by_cases e : i1.toInt = 3
        · exact Or.inl (Int32.toInt_inj.mp (by rw [e, i_3]))
        · exact Or.inr (rph_in.mpr (in_iff.mpr (by rw [i_0, i_2]; omega)))
  by_cases a : X1_isIn i1 0 3 = 0
  · have b := e3.mp a
    rw [X1_point, if_pos a, if_neg (fun c => b (Or.inl c)), if_neg (fun c => b (Or.inr c))]
    exact ⟨rfl, hU⟩
  · have b : i1 = 3 ∨ X0_requirePhase_T i1 = 0 := by
      by_cases c : i1 = 3 ∨ X0_requirePhase_T i1 = 0
      · exact c
      · exact absurd (e3.mpr c) a
    by_cases d : X1_isIn i2 6 32 = 0
    · have f : ¬ X0_requireWithin_T i2 6 32 = 0 := fun x => rw_in.mp x d
      rw [X1_point, if_neg a, if_pos d, if_neg f]
      refine ⟨?_, hU⟩
      rcases b with b | b
      · rw [if_pos b]
      · rw [if_pos b]; split <;> rfl
    · have f : X0_requireWithin_T i2 6 32 = 0 := rw_in.mpr d
      rw [if_pos f] at hbad
      rw [X1_point, if_neg a, if_neg d, if_pos f]
      by_cases g : nI n < 8
      · exfalso; apply hbad
        rw [if_pos g]
        rcases b with b | b
        · rw [if_pos b]
        · rw [if_pos b]; split <;> rfl
      · have n8 : nI n = 8 := by
          have : n = 8 := by
            rcases Nat.lt_or_ge n 8 with z | z
            · exact absurd (e8.mpr z) g
            · omega
          rw [this]; rfl
        rw [if_pos n8, if_neg g]
        refine ⟨?_, hU⟩
        rcases b with b | b
        · rw [if_pos b]
        · rw [if_pos b]; split <;> rfl
theorem R_fuse_ok {t n : Nat} {qph : AR} {qgr : AR} {qne : AR} {qap : AR} {qle : AR} {qfu : AR} {qpc : Int32} {qgd : Int32} {qri : Int32} {qnw : Int32} {qtk : Int32} {qsv : Int32} {rpt : Int32} {rph : AR} {rgr : AR} {rca : AR} {rne : AR} {rap : AR} {rle : AR} {rfu : AR} {rba : Int32} {rru : Int32} {rti : Int32} {rtk : Int32} {rsv : Int32} (qwa qgi qlo qtu rgi rpa : AR) (rth : Int32) (i1 : Int32) (i2 : Int32) (ht : t < 512) (hR : Rel t n qph qgr qne qap qle qfu qpc qgd qri qnw qtk qsv rpt rph rgr rca rne rap rle rfu rba rru rti rtk rsv) (hok : (X0_fuse_T i1 i2) = 0) : ((X1_fuse rfu i1 i2).2.2) = 0 ∧ ((X0_fuse qfu i1 i2).1) = ((X1_fuse rfu i1 i2).1) ∧ Rel (t + 1) n qph qgr qne qap qle ((X0_fuse qfu i1 i2).2) qpc qgd qri qnw qtk qsv rpt rph rgr rca rne rap rle ((X1_fuse rfu i1 i2).2.1) rba rru rti rtk rsv := by
  rw [X0_fuse_T] at hok; simp only [rph_in, rw_in] at hok
  have a : ¬ X1_isIn i1 0 2 = 0 := fun c => by simp [c] at hok
  have b : ¬ X1_isIn i2 0 100 = 0 := fun c => by simp [c] at hok
  obtain ⟨c1, c2, c3, c4, c5, c6, c7, c8, c9, c10, c11⟩ := Rel.up hR
  obtain ⟨k, hk, rfl⟩ := ph_nat a
  rw [X0_fuse, X1_fuse, if_pos (rph_in.mpr a), if_pos (rw_in.mpr b), if_neg a, if_neg b, ck (by omega)]
  refine ⟨rfl, (c6 k hk).1.symm, c1, c2, c3, c4, c5, fun p hp => ?_, c7, c8, c9, c10, c11⟩
  by_cases e : p = k
  · subst e; dsimp only; rw [upd_at, upd_at]; exact ⟨rfl, in_iff.mp b⟩
  · dsimp only; rw [upd_ne e, upd_ne e]; exact c6 p hp
theorem R_fuse_bad {t n : Nat} {qph : AR} {qgr : AR} {qne : AR} {qap : AR} {qle : AR} {qfu : AR} {qpc : Int32} {qgd : Int32} {qri : Int32} {qnw : Int32} {qtk : Int32} {qsv : Int32} {rpt : Int32} {rph : AR} {rgr : AR} {rca : AR} {rne : AR} {rap : AR} {rle : AR} {rfu : AR} {rba : Int32} {rru : Int32} {rti : Int32} {rtk : Int32} {rsv : Int32} (qwa qgi qlo qtu rgi rpa : AR) (rth : Int32) (i1 : Int32) (i2 : Int32) (ht : t < 512) (hR : Rel t n qph qgr qne qap qle qfu qpc qgd qri qnw qtk qsv rpt rph rgr rca rne rap rle rfu rba rru rti rtk rsv) (hbad : ¬ (X0_fuse_T i1 i2) = 0) : ((X1_fuse rfu i1 i2).2.2) = (X0_fuse_T i1 i2) ∧ Rel (t + 1) n qph qgr qne qap qle qfu qpc qgd qri qnw qtk qsv rpt rph rgr rca rne rap rle ((X1_fuse rfu i1 i2).2.1) rba rru rti rtk rsv := by
  have hU := Rel.up hR
  rw [X0_fuse_T] at hbad ⊢; rw [X1_fuse]; simp only [rph_in, rw_in] at hbad ⊢
  by_cases a : X1_isIn i1 0 2 = 0
  · simp only [a, if_true, not_true, if_false]; exact ⟨trivial, hU⟩
  · by_cases b : X1_isIn i2 0 100 = 0
    · simp only [a, b, if_true, not_true, if_false, not_false_iff]; exact ⟨trivial, hU⟩
    · exfalso; simp [a, b] at hbad
theorem R_balance_ok {t n : Nat} {qph : AR} {qgr : AR} {qne : AR} {qap : AR} {qle : AR} {qfu : AR} {qpc : Int32} {qgd : Int32} {qri : Int32} {qnw : Int32} {qtk : Int32} {qsv : Int32} {rpt : Int32} {rph : AR} {rgr : AR} {rca : AR} {rne : AR} {rap : AR} {rle : AR} {rfu : AR} {rba : Int32} {rru : Int32} {rti : Int32} {rtk : Int32} {rsv : Int32} (qwa qgi qlo qtu rgi rpa : AR) (rth : Int32) (i1 : Int32) (ht : t < 512) (hR : Rel t n qph qgr qne qap qle qfu qpc qgd qri qnw qtk qsv rpt rph rgr rca rne rap rle rfu rba rru rti rtk rsv) (hok : (X0_balance_T i1) = 0) : ((X1_balance rba i1).2.2) = 0 ∧ ((X0_balance qgd i1).1) = ((X1_balance rba i1).1) ∧ Rel (t + 1) n qph qgr qne qap qle qfu qpc ((X0_balance qgd i1).2) qri qnw qtk qsv rpt rph rgr rca rne rap rle rfu ((X1_balance rba i1).2.1) rru rti rtk rsv := by
  rw [X0_balance_T] at hok; simp only [rw_in] at hok
  have b : ¬ X1_isIn i1 0 100 = 0 := fun c => by simp [c] at hok
  obtain ⟨c1, c2, c3, c4, c5, c6, c7, c8, c9, c10, c11⟩ := Rel.up hR
  rw [X0_balance, X1_balance, if_pos (rw_in.mpr b), if_neg b]
  exact ⟨rfl, c7.1.symm, c1, c2, c3, c4, c5, c6, ⟨rfl, in_iff.mp b⟩, c8, c9, c10, c11⟩
theorem R_balance_bad {t n : Nat} {qph : AR} {qgr : AR} {qne : AR} {qap : AR} {qle : AR} {qfu : AR} {qpc : Int32} {qgd : Int32} {qri : Int32} {qnw : Int32} {qtk : Int32} {qsv : Int32} {rpt : Int32} {rph : AR} {rgr : AR} {rca : AR} {rne : AR} {rap : AR} {rle : AR} {rfu : AR} {rba : Int32} {rru : Int32} {rti : Int32} {rtk : Int32} {rsv : Int32} (qwa qgi qlo qtu rgi rpa : AR) (rth : Int32) (i1 : Int32) (ht : t < 512) (hR : Rel t n qph qgr qne qap qle qfu qpc qgd qri qnw qtk qsv rpt rph rgr rca rne rap rle rfu rba rru rti rtk rsv) (hbad : ¬ (X0_balance_T i1) = 0) : ((X1_balance rba i1).2.2) = (X0_balance_T i1) ∧ Rel (t + 1) n qph qgr qne qap qle qfu qpc qgd qri qnw qtk qsv rpt rph rgr rca rne rap rle rfu ((X1_balance rba i1).2.1) rru rti rtk rsv := by
  have hU := Rel.up hR
  rw [X0_balance_T] at hbad ⊢; rw [X1_balance]; simp only [rw_in] at hbad ⊢
  by_cases a : X1_isIn i1 0 100 = 0
  · simp only [a, if_true, not_true, if_false]; exact ⟨trivial, hU⟩
  · exfalso; simp [a] at hbad
theorem R_rule_ok {t n : Nat} {qph : AR} {qgr : AR} {qne : AR} {qap : AR} {qle : AR} {qfu : AR} {qpc : Int32} {qgd : Int32} {qri : Int32} {qnw : Int32} {qtk : Int32} {qsv : Int32} {rpt : Int32} {rph : AR} {rgr : AR} {rca : AR} {rne : AR} {rap : AR} {rle : AR} {rfu : AR} {rba : Int32} {rru : Int32} {rti : Int32} {rtk : Int32} {rsv : Int32} (qwa qgi qlo qtu rgi rpa : AR) (rth : Int32) (i1 : Int32) (ht : t < 512) (hR : Rel t n qph qgr qne qap qle qfu qpc qgd qri qnw qtk qsv rpt rph rgr rca rne rap rle rfu rba rru rti rtk rsv) (hok : (X0_rule_T i1) = 0) : ((X1_rule rru i1).2.2) = 0 ∧ ((X0_rule qri i1).1) = ((X1_rule rru i1).1) ∧ Rel (t + 1) n qph qgr qne qap qle qfu qpc qgd ((X0_rule qri i1).2) qnw qtk qsv rpt rph rgr rca rne rap rle rfu rba ((X1_rule rru i1).2.1) rti rtk rsv := by
  rw [X0_rule_T] at hok; simp only [rw_in] at hok
  have b : ¬ X1_isIn i1 0 1 = 0 := fun c => by simp [c] at hok
  obtain ⟨c1, c2, c3, c4, c5, c6, c7, c8, c9, c10, c11⟩ := Rel.up hR
  rw [X0_rule, X1_rule, if_pos (rw_in.mpr b), if_neg b]
  refine ⟨rfl, c8.1.symm, c1, c2, c3, c4, c5, c6, c7, ⟨rfl, ?_⟩, c9, c10, c11⟩
  have q := in_iff.mp b
  rw [i_0, i_1] at q
  by_cases e : i1.toInt = 0
  · exact Or.inl (Int32.toInt_inj.mp (by rw [e, i_0]))
  · exact Or.inr (Int32.toInt_inj.mp (by rw [i_1]; show i1.toInt = 1; omega))
theorem R_rule_bad {t n : Nat} {qph : AR} {qgr : AR} {qne : AR} {qap : AR} {qle : AR} {qfu : AR} {qpc : Int32} {qgd : Int32} {qri : Int32} {qnw : Int32} {qtk : Int32} {qsv : Int32} {rpt : Int32} {rph : AR} {rgr : AR} {rca : AR} {rne : AR} {rap : AR} {rle : AR} {rfu : AR} {rba : Int32} {rru : Int32} {rti : Int32} {rtk : Int32} {rsv : Int32} (qwa qgi qlo qtu rgi rpa : AR) (rth : Int32) (i1 : Int32) (ht : t < 512) (hR : Rel t n qph qgr qne qap qle qfu qpc qgd qri qnw qtk qsv rpt rph rgr rca rne rap rle rfu rba rru rti rtk rsv) (hbad : ¬ (X0_rule_T i1) = 0) : ((X1_rule rru i1).2.2) = (X0_rule_T i1) ∧ Rel (t + 1) n qph qgr qne qap qle qfu qpc qgd qri qnw qtk qsv rpt rph rgr rca rne rap rle rfu rba ((X1_rule rru i1).2.1) rti rtk rsv := by
  have hU := Rel.up hR
  rw [X0_rule_T] at hbad ⊢; rw [X1_rule]; simp only [rw_in] at hbad ⊢
  by_cases a : X1_isIn i1 0 1 = 0
  · simp only [a, if_true, not_true, if_false]; exact ⟨trivial, hU⟩
  · exfalso; simp [a] at hbad
theorem R_plugIn_ok {t n : Nat} {qph : AR} {qgr : AR} {qne : AR} {qap : AR} {qle : AR} {qfu : AR} {qpc : Int32} {qgd : Int32} {qri : Int32} {qnw : Int32} {qtk : Int32} {qsv : Int32} {rpt : Int32} {rph : AR} {rgr : AR} {rca : AR} {rne : AR} {rap : AR} {rle : AR} {rfu : AR} {rba : Int32} {rru : Int32} {rti : Int32} {rtk : Int32} {rsv : Int32} (qwa qgi qlo qtu rgi rpa : AR) (rth : Int32) (i1 : Int32) (i2 : Int32) (i3 : Int32) (i4 : Int32) (ht : t < 512) (hR : Rel t n qph qgr qne qap qle qfu qpc qgd qri qnw qtk qsv rpt rph rgr rca rne rap rle rfu rba rru rti rtk rsv) (hok : (X0_plugIn_T qne qpc n i1 i2 i3 i4) = 0) : ((X1_plugIn rpt rph rgr rca rne rap rle rti n i1 i2 i3 i4).2.2.2.2.2) = 0 ∧ ((X0_plugIn qph qgr qne qap qle qpc qnw n i1 i2 i3 i4).1) = ((X1_plugIn rpt rph rgr rca rne rap rle rti n i1 i2 i3 i4).1) ∧ Rel (t + 1) n qph qgr ((X0_plugIn qph qgr qne qap qle qpc qnw n i1 i2 i3 i4).2.1) ((X0_plugIn qph qgr qne qap qle qpc qnw n i1 i2 i3 i4).2.2.1) ((X0_plugIn qph qgr qne qap qle qpc qnw n i1 i2 i3 i4).2.2.2) qfu qpc qgd qri qnw qtk qsv rpt rph rgr ((X1_plugIn rpt rph rgr rca rne rap rle rti n i1 i2 i3 i4).2.1) ((X1_plugIn rpt rph rgr rca rne rap rle rti n i1 i2 i3 i4).2.2.1) ((X1_plugIn rpt rph rgr rca rne rap rle rti n i1 i2 i3 i4).2.2.2.1) ((X1_plugIn rpt rph rgr rca rne rap rle rti n i1 i2 i3 i4).2.2.2.2.1) rfu rba rru rti rtk rsv := by
  rw [X0_plugIn_T] at hok; simp only [rw_in] at hok
  rcases pcase hR i1 with ⟨k, hk, e, P0, P1, ek⟩ | ⟨P0, P1⟩
  · have a : ¬ X1_isIn i2 1 5000 = 0 := fun c => by simp [P0, c] at hok
    have b : ¬ X1_isIn i3 1 32 = 0 := fun c => by simp [P0, c] at hok
    have d : ¬ X1_isIn i4 1 500 = 0 := fun c => by simp [P0, c] at hok
    have f : X0_hasCar qne i1 = 0 := by
      by_cases f : X0_hasCar qne i1 = 0
      · exact f
      · exfalso; simp [P0, a, b, d, f] at hok
    have g : rca k = 0 := (Rel.car hR hk).mp (by rw [← e]; exact f)
    have hU := Rel.up hR
    obtain ⟨c1, c2, c3, c4, c5, c6, c7, c8, c9, c10, c11⟩ := hU
    have h8 := c1.1
    have qa := in_iff.mp a
    have qb := in_iff.mp b
    have qd := in_iff.mp d
    have w1 : (1 : Int32).toInt = 1 := rfl
    have w2 : (5000 : Int32).toInt = 5000 := rfl
    have w3 : (32 : Int32).toInt = 32 := rfl
    have w4 : (500 : Int32).toInt = 500 := rfl
    rw [w1, w2] at qa
    rw [w1, w3] at qb
    rw [w1, w4] at qd
    have c9' := hR.2.2.2.2.2.2.2.2.1
    have es : (qnw + i4).toInt = qnw.toInt + i4.toInt := i_add (by omega) (by omega)
    have hn : Rel (t + 1) n qph qgr (upd qne k i2) (upd qap k i3) (upd qle k (qnw + i4)) qfu qpc qgd qri qnw qtk qsv rpt rph rgr (upd rca k 1) (upd rne k i2) (upd rap k i3) (upd rle k (rti + i4)) rfu rba rru rti rtk rsv := by
      refine ⟨c1, c2, fun q hq => ?_, fun q hq => ?_, fun q h1 h2 => ?_, c6, c7, c8, c9, c10, c11⟩
      · by_cases z : q = k
        · subst z; rw [upd_at, upd_at, upd_at, upd_at, upd_at, upd_at, upd_at]
          exact Or.inr ⟨rfl, rfl, rfl, by rw [c9.1], ⟨by omega, by omega⟩, by omega, by omega⟩
        · rw [upd_ne z, upd_ne z, upd_ne z, upd_ne z, upd_ne z, upd_ne z, upd_ne z]; exact c3 q hq
      · by_cases z : q = k
        · subst z; rw [upd_at]; omega
        · rw [upd_ne z]; exact c4 q hq
      · rw [upd_ne (by omega)]; exact c5 q h1 h2
    have hl := RB_lax (Rel.rb (by omega) hn) hk (by rw [upd_at]; decide)
    rw [X0_plugIn, X1_plugIn, if_pos P0, if_pos (rw_in.mpr a), if_pos (rw_in.mpr b), if_pos (rw_in.mpr d), if_pos f, P1, if_neg pz, if_neg a, if_neg b, if_neg d, ek, if_pos g, nar1, e]
    exact ⟨rfl, hl, hn⟩
  · exfalso; simp [P0] at hok
theorem R_plugIn_bad {t n : Nat} {qph : AR} {qgr : AR} {qne : AR} {qap : AR} {qle : AR} {qfu : AR} {qpc : Int32} {qgd : Int32} {qri : Int32} {qnw : Int32} {qtk : Int32} {qsv : Int32} {rpt : Int32} {rph : AR} {rgr : AR} {rca : AR} {rne : AR} {rap : AR} {rle : AR} {rfu : AR} {rba : Int32} {rru : Int32} {rti : Int32} {rtk : Int32} {rsv : Int32} (qwa qgi qlo qtu rgi rpa : AR) (rth : Int32) (i1 : Int32) (i2 : Int32) (i3 : Int32) (i4 : Int32) (ht : t < 512) (hR : Rel t n qph qgr qne qap qle qfu qpc qgd qri qnw qtk qsv rpt rph rgr rca rne rap rle rfu rba rru rti rtk rsv) (hbad : ¬ (X0_plugIn_T qne qpc n i1 i2 i3 i4) = 0) : ((X1_plugIn rpt rph rgr rca rne rap rle rti n i1 i2 i3 i4).2.2.2.2.2) = (X0_plugIn_T qne qpc n i1 i2 i3 i4) ∧ Rel (t + 1) n qph qgr qne qap qle qfu qpc qgd qri qnw qtk qsv rpt rph rgr ((X1_plugIn rpt rph rgr rca rne rap rle rti n i1 i2 i3 i4).2.1) ((X1_plugIn rpt rph rgr rca rne rap rle rti n i1 i2 i3 i4).2.2.1) ((X1_plugIn rpt rph rgr rca rne rap rle rti n i1 i2 i3 i4).2.2.2.1) ((X1_plugIn rpt rph rgr rca rne rap rle rti n i1 i2 i3 i4).2.2.2.2.1) rfu rba rru rti rtk rsv := by
  have hU := Rel.up hR
  rw [X0_plugIn_T] at hbad ⊢; rw [X1_plugIn]; simp only [rw_in] at hbad ⊢
  rcases pcase hR i1 with ⟨k, hk, e, P0, P1, ek⟩ | ⟨P0, P1⟩
  · rw [P1, if_neg pz, if_pos P0]; rw [if_pos P0] at hbad
    by_cases a : X1_isIn i2 1 5000 = 0
    · simp only [a, if_true, not_true, if_false]; exact ⟨trivial, hU⟩
    · by_cases b : X1_isIn i3 1 32 = 0
      · simp only [a, b, if_true, not_true, if_false, not_false_iff]; exact ⟨trivial, hU⟩
      · by_cases d : X1_isIn i4 1 500 = 0
        · simp only [a, b, d, if_true, not_true, if_false, not_false_iff]; exact ⟨trivial, hU⟩
        · have g := Rel.car hR hk
          rw [← e] at g
          by_cases f : X0_hasCar qne i1 = 0
          · exfalso; simp [a, b, d, f] at hbad
          · have f2 : ¬ rca i1.toNatClampNeg = 0 := by rw [ek]; exact fun x => f (g.mpr x)
            simp only [a, b, d, f, f2, if_true, if_false, not_false_iff]; exact ⟨trivial, hU⟩
  · rw [P1, if_pos po, if_neg P0]; exact ⟨rfl, hU⟩
theorem R_takeOut_ok {t n : Nat} {qph : AR} {qgr : AR} {qne : AR} {qap : AR} {qle : AR} {qfu : AR} {qpc : Int32} {qgd : Int32} {qri : Int32} {qnw : Int32} {qtk : Int32} {qsv : Int32} {rpt : Int32} {rph : AR} {rgr : AR} {rca : AR} {rne : AR} {rap : AR} {rle : AR} {rfu : AR} {rba : Int32} {rru : Int32} {rti : Int32} {rtk : Int32} {rsv : Int32} (qwa qgi qlo qtu rgi rpa : AR) (rth : Int32) (i1 : Int32) (ht : t < 512) (hR : Rel t n qph qgr qne qap qle qfu qpc qgd qri qnw qtk qsv rpt rph rgr rca rne rap rle rfu rba rru rti rtk rsv) (hok : (X0_takeOut_T qne qpc n i1) = 0) : ((X1_takeOut rpt rca rne rsv n i1).2.2.2) = 0 ∧ ((X0_takeOut qne qpc qsv n i1).1) = ((X1_takeOut rpt rca rne rsv n i1).1) ∧ Rel (t + 1) n qph qgr ((X0_takeOut qne qpc qsv n i1).2.1) qap qle qfu qpc qgd qri qnw qtk ((X0_takeOut qne qpc qsv n i1).2.2) rpt rph rgr ((X1_takeOut rpt rca rne rsv n i1).2.1) rne rap rle rfu rba rru rti rtk ((X1_takeOut rpt rca rne rsv n i1).2.2.1) := by
  rw [X0_takeOut_T] at hok
  rcases pcase hR i1 with ⟨k, hk, e, P0, P1, ek⟩ | ⟨P0, P1⟩
  · have f : X0_requireCar_T qne i1 = 0 := by
      by_cases f : X0_requireCar_T qne i1 = 0
      · exact f
      · exfalso; simp [P0, f] at hok
    have g : ¬ rca k = 0 := (Rel.rcar hR hk).mp (by rw [← e]; exact f)
    obtain ⟨c1, c2, c3, c4, c5, c6, c7, c8, c9, c10, c11⟩ := Rel.up hR
    have h8 := c1.1
    have en : qne k = rne k := by
      rcases c3 k hk with x | x
      · exact absurd x.1 g
      · exact x.2.1
    rw [X0_takeOut, X1_takeOut, if_pos P0, if_pos f, P1, if_neg pz, ek, if_neg g, nar0, en]
    have hn : ∀ sq sr : Int32, sr = sq → Rel (t + 1) n qph qgr (upd qne k (-1)) qap qle qfu qpc qgd qri qnw qtk sq rpt rph rgr (upd rca k 0) rne rap rle rfu rba rru rti rtk sr := by
      intro sq sr es
      refine ⟨c1, c2, fun q hq => ?_, c4, fun q h1 h2 => ?_, c6, c7, c8, c9, c10, es⟩
      · by_cases z : q = k
        · subst z; rw [upd_at, upd_at]; exact Or.inl ⟨rfl, rfl⟩
        · rw [upd_ne z, upd_ne z]; exact c3 q hq
      · rw [upd_ne (by omega)]; exact c5 q h1 h2
    split
    · exact ⟨rfl, rfl, hn _ _ (by rw [c11])⟩
    · exact ⟨rfl, rfl, hn _ _ (by rw [c11]; grind)⟩
  · exfalso; simp [P0] at hok
theorem R_takeOut_bad {t n : Nat} {qph : AR} {qgr : AR} {qne : AR} {qap : AR} {qle : AR} {qfu : AR} {qpc : Int32} {qgd : Int32} {qri : Int32} {qnw : Int32} {qtk : Int32} {qsv : Int32} {rpt : Int32} {rph : AR} {rgr : AR} {rca : AR} {rne : AR} {rap : AR} {rle : AR} {rfu : AR} {rba : Int32} {rru : Int32} {rti : Int32} {rtk : Int32} {rsv : Int32} (qwa qgi qlo qtu rgi rpa : AR) (rth : Int32) (i1 : Int32) (ht : t < 512) (hR : Rel t n qph qgr qne qap qle qfu qpc qgd qri qnw qtk qsv rpt rph rgr rca rne rap rle rfu rba rru rti rtk rsv) (hbad : ¬ (X0_takeOut_T qne qpc n i1) = 0) : ((X1_takeOut rpt rca rne rsv n i1).2.2.2) = (X0_takeOut_T qne qpc n i1) ∧ Rel (t + 1) n qph qgr qne qap qle qfu qpc qgd qri qnw qtk qsv rpt rph rgr ((X1_takeOut rpt rca rne rsv n i1).2.1) rne rap rle rfu rba rru rti rtk ((X1_takeOut rpt rca rne rsv n i1).2.2.1) := by
  have hU := Rel.up hR
  rw [X0_takeOut_T] at hbad ⊢; rw [X1_takeOut]
  rcases pcase hR i1 with ⟨k, hk, e, P0, P1, ek⟩ | ⟨P0, P1⟩
  · rw [P1, if_neg pz, if_pos P0, ek]; rw [if_pos P0] at hbad
    have g := Rel.rcar hR hk
    rw [← e] at g
    by_cases f : X0_requireCar_T qne i1 = 0
    · exfalso; simp [f] at hbad
    · have f2 : rca k = 0 := by
        by_cases x : rca k = 0
        · exact x
        · exact absurd (g.mpr x) f
      rw [if_neg f, if_pos f2]; exact ⟨rfl, hU⟩
  · rw [P1, if_pos po, if_neg P0]; exact ⟨rfl, hU⟩
theorem R_appetite_ok {t n : Nat} {qph : AR} {qgr : AR} {qne : AR} {qap : AR} {qle : AR} {qfu : AR} {qpc : Int32} {qgd : Int32} {qri : Int32} {qnw : Int32} {qtk : Int32} {qsv : Int32} {rpt : Int32} {rph : AR} {rgr : AR} {rca : AR} {rne : AR} {rap : AR} {rle : AR} {rfu : AR} {rba : Int32} {rru : Int32} {rti : Int32} {rtk : Int32} {rsv : Int32} (qwa qgi qlo qtu rgi rpa : AR) (rth : Int32) (i1 : Int32) (i2 : Int32) (ht : t < 512) (hR : Rel t n qph qgr qne qap qle qfu qpc qgd qri qnw qtk qsv rpt rph rgr rca rne rap rle rfu rba rru rti rtk rsv) (hok : (X0_appetite_T qne qpc n i1 i2) = 0) : ((X1_appetite rpt rca rap n i1 i2).2.2) = 0 ∧ ((X0_appetite qne qap qpc n i1 i2).1) = ((X1_appetite rpt rca rap n i1 i2).1) ∧ Rel (t + 1) n qph qgr qne ((X0_appetite qne qap qpc n i1 i2).2) qle qfu qpc qgd qri qnw qtk qsv rpt rph rgr rca rne ((X1_appetite rpt rca rap n i1 i2).2.1) rle rfu rba rru rti rtk rsv := by
  rw [X0_appetite_T] at hok; simp only [rw_in] at hok
  rcases pcase hR i1 with ⟨k, hk, e, P0, P1, ek⟩ | ⟨P0, P1⟩
  · have b : ¬ X1_isIn i2 1 32 = 0 := fun c => by simp [P0, c] at hok
    have f : X0_requireCar_T qne i1 = 0 := by
      by_cases f : X0_requireCar_T qne i1 = 0
      · exact f
      · exfalso; simp [P0, b, f] at hok
    have g : ¬ rca k = 0 := (Rel.rcar hR hk).mp (by rw [← e]; exact f)
    obtain ⟨c1, c2, c3, c4, c5, c6, c7, c8, c9, c10, c11⟩ := Rel.up hR
    have ea : rap k = qap k := by
      rcases c3 k hk with x | x
      · exact absurd x.1 g
      · exact x.2.2.1
    rw [X0_appetite, X1_appetite, if_pos P0, if_pos (rw_in.mpr b), if_pos f, P1, if_neg pz, if_neg b, ek, if_neg g, ea]
    refine ⟨rfl, rfl, c1, c2, fun q hq => ?_, c4, c5, c6, c7, c8, c9, c10, c11⟩
    by_cases z : q = k
    · subst z; dsimp only; rw [upd_at, upd_at]
      rcases c3 q hq with x | ⟨x1, x2, x3, x4, x5, x6⟩
      · exact absurd x.1 g
      · exact Or.inr ⟨x1, x2, rfl, x4, in_iff.mp b, x6⟩
    · dsimp only; rw [upd_ne z, upd_ne z]; exact c3 q hq
  · exfalso; simp [P0] at hok
theorem R_appetite_bad {t n : Nat} {qph : AR} {qgr : AR} {qne : AR} {qap : AR} {qle : AR} {qfu : AR} {qpc : Int32} {qgd : Int32} {qri : Int32} {qnw : Int32} {qtk : Int32} {qsv : Int32} {rpt : Int32} {rph : AR} {rgr : AR} {rca : AR} {rne : AR} {rap : AR} {rle : AR} {rfu : AR} {rba : Int32} {rru : Int32} {rti : Int32} {rtk : Int32} {rsv : Int32} (qwa qgi qlo qtu rgi rpa : AR) (rth : Int32) (i1 : Int32) (i2 : Int32) (ht : t < 512) (hR : Rel t n qph qgr qne qap qle qfu qpc qgd qri qnw qtk qsv rpt rph rgr rca rne rap rle rfu rba rru rti rtk rsv) (hbad : ¬ (X0_appetite_T qne qpc n i1 i2) = 0) : ((X1_appetite rpt rca rap n i1 i2).2.2) = (X0_appetite_T qne qpc n i1 i2) ∧ Rel (t + 1) n qph qgr qne qap qle qfu qpc qgd qri qnw qtk qsv rpt rph rgr rca rne ((X1_appetite rpt rca rap n i1 i2).2.1) rle rfu rba rru rti rtk rsv := by
  have hU := Rel.up hR
  rw [X0_appetite_T] at hbad ⊢; rw [X1_appetite]; simp only [rw_in] at hbad ⊢
  rcases pcase hR i1 with ⟨k, hk, e, P0, P1, ek⟩ | ⟨P0, P1⟩
  · rw [P1, if_neg pz, if_pos P0, ek]; rw [if_pos P0] at hbad
    by_cases b : X1_isIn i2 1 32 = 0
    · simp only [b, if_true, not_true, if_false]; exact ⟨trivial, hU⟩
    · have g := Rel.rcar hR hk
      rw [← e] at g
      by_cases f : X0_requireCar_T qne i1 = 0
      · exfalso; simp [b, f] at hbad
      · have f2 : rca k = 0 := by
          by_cases x : rca k = 0
          · exact x
          · exact absurd (g.mpr x) f
        simp only [b, f, f2, if_true, if_false, not_false_iff]; exact ⟨trivial, hU⟩
  · rw [P1, if_pos po, if_neg P0]; exact ⟨rfl, hU⟩
theorem R_stay_ok {t n : Nat} {qph : AR} {qgr : AR} {qne : AR} {qap : AR} {qle : AR} {qfu : AR} {qpc : Int32} {qgd : Int32} {qri : Int32} {qnw : Int32} {qtk : Int32} {qsv : Int32} {rpt : Int32} {rph : AR} {rgr : AR} {rca : AR} {rne : AR} {rap : AR} {rle : AR} {rfu : AR} {rba : Int32} {rru : Int32} {rti : Int32} {rtk : Int32} {rsv : Int32} (qwa qgi qlo qtu rgi rpa : AR) (rth : Int32) (i1 : Int32) (i2 : Int32) (ht : t < 512) (hR : Rel t n qph qgr qne qap qle qfu qpc qgd qri qnw qtk qsv rpt rph rgr rca rne rap rle rfu rba rru rti rtk rsv) (hok : (X0_stay_T qne qpc n i1 i2) = 0) : ((X1_stay rpt rca rle rti n i1 i2).2.2) = 0 ∧ ((X0_stay qne qle qpc qnw n i1 i2).1) = ((X1_stay rpt rca rle rti n i1 i2).1) ∧ Rel (t + 1) n qph qgr qne qap ((X0_stay qne qle qpc qnw n i1 i2).2) qfu qpc qgd qri qnw qtk qsv rpt rph rgr rca rne rap ((X1_stay rpt rca rle rti n i1 i2).2.1) rfu rba rru rti rtk rsv := by
  rw [X0_stay_T] at hok; simp only [rw_in] at hok
  rcases pcase hR i1 with ⟨k, hk, e, P0, P1, ek⟩ | ⟨P0, P1⟩
  · have b : ¬ X1_isIn i2 1 500 = 0 := fun c => by simp [P0, c] at hok
    have f : X0_requireCar_T qne i1 = 0 := by
      by_cases f : X0_requireCar_T qne i1 = 0
      · exact f
      · exfalso; simp [P0, b, f] at hok
    have g : ¬ rca k = 0 := (Rel.rcar hR hk).mp (by rw [← e]; exact f)
    have c3' := hR.2.2.1 k hk
    have c9' := hR.2.2.2.2.2.2.2.2.1
    obtain ⟨c1, c2, c3, c4, c5, c6, c7, c8, c9, c10, c11⟩ := Rel.up hR
    have qb := in_iff.mp b
    have w1 : (1 : Int32).toInt = 1 := rfl
    have w4 : (500 : Int32).toInt = 500 := rfl
    rw [w1, w4] at qb
    rcases c3' with x | ⟨x1, x2, x3, x4, x5, x6, x7⟩
    · exact absurd x.1 g
    have ev : rti + X1_stepsLeft rle rti i1 + i2 = (if qle k < qnw then qnw else qle k) + i2 := by
      rw [X1_stepsLeft, ek, x4, c9.1]
      by_cases z : qle k < qnw
      · rw [if_pos z, if_pos (by grind)]; grind
      · rw [if_neg z]; split
        · grind
        · grind
    have eb : 0 ≤ ((if qle k < qnw then qnw else qle k) + i2).toInt ∧ ((if qle k < qnw then qnw else qle k) + i2).toInt ≤ 600 * ((t + 1 : Nat) : Int) := by
      split
      · rw [i_add (by omega) (by omega)]; omega
      · rw [i_add (by omega) (by omega)]; omega
    rw [X0_stay, X1_stay, if_pos P0, if_pos (rw_in.mpr b), if_pos f, P1, if_neg pz, if_neg b, ek, if_neg g, ev]
    generalize (if qle k < qnw then qnw else qle k) + i2 = v at *
    have hn : Rel (t + 1) n qph qgr qne qap (upd qle k v) qfu qpc qgd qri qnw qtk qsv rpt rph rgr rca rne rap (upd rle k v) rfu rba rru rti rtk rsv := by
      refine ⟨c1, c2, fun q hq => ?_, c4, c5, c6, c7, c8, c9, c10, c11⟩
      by_cases z : q = k
      · subst z; rw [upd_at, upd_at]
        exact Or.inr ⟨x1, x2, x3, rfl, x5, eb⟩
      · rw [upd_ne z, upd_ne z]; exact c3 q hq
    have hs := RB_stl (Rel.rb (by omega) hn) hk g
    rw [e]
    exact ⟨rfl, hs, hn⟩
  · exfalso; simp [P0] at hok
theorem R_stay_bad {t n : Nat} {qph : AR} {qgr : AR} {qne : AR} {qap : AR} {qle : AR} {qfu : AR} {qpc : Int32} {qgd : Int32} {qri : Int32} {qnw : Int32} {qtk : Int32} {qsv : Int32} {rpt : Int32} {rph : AR} {rgr : AR} {rca : AR} {rne : AR} {rap : AR} {rle : AR} {rfu : AR} {rba : Int32} {rru : Int32} {rti : Int32} {rtk : Int32} {rsv : Int32} (qwa qgi qlo qtu rgi rpa : AR) (rth : Int32) (i1 : Int32) (i2 : Int32) (ht : t < 512) (hR : Rel t n qph qgr qne qap qle qfu qpc qgd qri qnw qtk qsv rpt rph rgr rca rne rap rle rfu rba rru rti rtk rsv) (hbad : ¬ (X0_stay_T qne qpc n i1 i2) = 0) : ((X1_stay rpt rca rle rti n i1 i2).2.2) = (X0_stay_T qne qpc n i1 i2) ∧ Rel (t + 1) n qph qgr qne qap qle qfu qpc qgd qri qnw qtk qsv rpt rph rgr rca rne rap ((X1_stay rpt rca rle rti n i1 i2).2.1) rfu rba rru rti rtk rsv := by
  have hU := Rel.up hR
  rw [X0_stay_T] at hbad ⊢; rw [X1_stay]; simp only [rw_in] at hbad ⊢
  rcases pcase hR i1 with ⟨k, hk, e, P0, P1, ek⟩ | ⟨P0, P1⟩
  · rw [P1, if_neg pz, if_pos P0, ek]; rw [if_pos P0] at hbad
    by_cases b : X1_isIn i2 1 500 = 0
    · simp only [b, if_true, not_true, if_false]; exact ⟨trivial, hU⟩
    · have g := Rel.rcar hR hk
      rw [← e] at g
      by_cases f : X0_requireCar_T qne i1 = 0
      · exfalso; simp [b, f] at hbad
      · have f2 : rca k = 0 := by
          by_cases x : rca k = 0
          · exact x
          · exact absurd (g.mpr x) f
        simp only [b, f, f2, if_true, if_false, not_false_iff]; exact ⟨trivial, hU⟩
  · rw [P1, if_pos po, if_neg P0]; exact ⟨rfl, hU⟩
theorem R_step_ok {t n : Nat} {qph : AR} {qgr : AR} {qne : AR} {qap : AR} {qle : AR} {qfu : AR} {qpc : Int32} {qgd : Int32} {qri : Int32} {qnw : Int32} {qtk : Int32} {qsv : Int32} {rpt : Int32} {rph : AR} {rgr : AR} {rca : AR} {rne : AR} {rap : AR} {rle : AR} {rfu : AR} {rba : Int32} {rru : Int32} {rti : Int32} {rtk : Int32} {rsv : Int32} (qwa qgi qlo qtu rgi rpa : AR) (rth : Int32) (i1 : Int32) (ht : t < 512) (hR : Rel t n qph qgr qne qap qle qfu qpc qgd qri qnw qtk qsv rpt rph rgr rca rne rap rle rfu rba rru rti rtk rsv) (hok : (X0_step_T n i1) = 0) : ((X1_step rph rgr rca rne rap rle rfu rba rru rti rtk rgi rpa n i1).2.2.2.2.2.2) = 0 ∧ ((X0_step qph qgr qne qap qle qfu qgd qri qnw qtk qwa qgi qlo qtu n i1).1) = ((X1_step rph rgr rca rne rap rle rfu rba rru rti rtk rgi rpa n i1).1) ∧ Rel (t + 1) n qph qgr ((X0_step qph qgr qne qap qle qfu qgd qri qnw qtk qwa qgi qlo qtu n i1).2.1) qap qle qfu qpc qgd qri ((X0_step qph qgr qne qap qle qfu qgd qri qnw qtk qwa qgi qlo qtu n i1).2.2.1) ((X0_step qph qgr qne qap qle qfu qgd qri qnw qtk qwa qgi qlo qtu n i1).2.2.2.1) qsv rpt rph rgr rca ((X1_step rph rgr rca rne rap rle rfu rba rru rti rtk rgi rpa n i1).2.1) rap rle rfu rba rru ((X1_step rph rgr rca rne rap rle rfu rba rru rti rtk rgi rpa n i1).2.2.1) ((X1_step rph rgr rca rne rap rle rfu rba rru rti rtk rgi rpa n i1).2.2.2.1) rsv := by
  rw [X0_step_T] at hok; simp only [rw_in] at hok
  have a : ¬ X1_isIn i1 1 50 = 0 := fun c => by simp [c] at hok
  have h50 := isIn_50 a
  have hB := Rel.rb (by omega) hR
  obtain ⟨c1, c2, c3, c4, c5, c6, c7, c8, c9, c10, c11⟩ := hR
  have hE := step_eq (i := i1) (tk0 := qtk) c7.1 c8 i1.toNatClampNeg 0 qne rne qnw rti qtk 0 qwa qgi qlo qtu rgi rpa hB (by omega) (by grind)
  rw [X0_step, X1_step, if_pos (rw_in.mpr a), if_neg a]
  dsimp only
  generalize X0_step_L14 qph qgr qap qle qfu qgd qri n i1 i1.toNatClampNeg 0 qne qnw qtk qwa qgi qlo qtu = S at hE ⊢
  generalize X1_step_L23 rph rgr rca rap rle rfu rba rru n i1 i1.toNatClampNeg 0 0 rne rti rgi rpa = M at hE ⊢
  obtain ⟨e1, e2, e3, e4⟩ := hE
  refine ⟨rfl, by rw [e4]; grind, c1, c2, fun k hk => ?_, e1.2, c5, c6, c7, c8, ⟨e2, by omega, by omega⟩, by rw [e4, c10], c11⟩
  rcases e1.1 k hk with x | x
  · exact Or.inl x
  · rcases c3 k hk with y | ⟨y1, y2, y3, y4, y5, y6, y7⟩
    · rw [y.1] at x; exact absurd x.1 (by decide)
    · exact Or.inr ⟨x.1, x.2, y3, y4, y5, y6, by omega⟩
theorem R_step_bad {t n : Nat} {qph : AR} {qgr : AR} {qne : AR} {qap : AR} {qle : AR} {qfu : AR} {qpc : Int32} {qgd : Int32} {qri : Int32} {qnw : Int32} {qtk : Int32} {qsv : Int32} {rpt : Int32} {rph : AR} {rgr : AR} {rca : AR} {rne : AR} {rap : AR} {rle : AR} {rfu : AR} {rba : Int32} {rru : Int32} {rti : Int32} {rtk : Int32} {rsv : Int32} (qwa qgi qlo qtu rgi rpa : AR) (rth : Int32) (i1 : Int32) (ht : t < 512) (hR : Rel t n qph qgr qne qap qle qfu qpc qgd qri qnw qtk qsv rpt rph rgr rca rne rap rle rfu rba rru rti rtk rsv) (hbad : ¬ (X0_step_T n i1) = 0) : ((X1_step rph rgr rca rne rap rle rfu rba rru rti rtk rgi rpa n i1).2.2.2.2.2.2) = (X0_step_T n i1) ∧ Rel (t + 1) n qph qgr qne qap qle qfu qpc qgd qri qnw qtk qsv rpt rph rgr rca ((X1_step rph rgr rca rne rap rle rfu rba rru rti rtk rgi rpa n i1).2.1) rap rle rfu rba rru ((X1_step rph rgr rca rne rap rle rfu rba rru rti rtk rgi rpa n i1).2.2.1) ((X1_step rph rgr rca rne rap rle rfu rba rru rti rtk rgi rpa n i1).2.2.2.1) rsv := by
  have hU := Rel.up hR
  rw [X0_step_T] at hbad ⊢; rw [X1_step]; simp only [rw_in] at hbad ⊢
  have e0 : rtk + 0 = rtk := by grind
  by_cases a : X1_isIn i1 1 50 = 0
  · simp only [a, if_true, not_true, if_false, e0]
    split <;> exact ⟨rfl, hU⟩
  · exfalso; simp [a] at hbad
theorem R_time {t n : Nat} {qph : AR} {qgr : AR} {qne : AR} {qap : AR} {qle : AR} {qfu : AR} {qpc : Int32} {qgd : Int32} {qri : Int32} {qnw : Int32} {qtk : Int32} {qsv : Int32} {rpt : Int32} {rph : AR} {rgr : AR} {rca : AR} {rne : AR} {rap : AR} {rle : AR} {rfu : AR} {rba : Int32} {rru : Int32} {rti : Int32} {rtk : Int32} {rsv : Int32} (qwa qgi qlo qtu rgi rpa : AR) (rth : Int32) (ht : t < 512) (hR : Rel t n qph qgr qne qap qle qfu qpc qgd qri qnw qtk qsv rpt rph rgr rca rne rap rle rfu rba rru rti rtk rsv) : (X0_time qnw) = ((X1_time rti).1) ∧ Rel (t + 1) n qph qgr qne qap qle qfu qpc qgd qri qnw qtk qsv rpt rph rgr rca rne rap rle rfu rba rru rti rtk rsv := by
  have hU := Rel.up hR
  exact ⟨hR.2.2.2.2.2.2.2.2.1.1.symm, hU⟩
theorem R_points {t n : Nat} {qph : AR} {qgr : AR} {qne : AR} {qap : AR} {qle : AR} {qfu : AR} {qpc : Int32} {qgd : Int32} {qri : Int32} {qnw : Int32} {qtk : Int32} {qsv : Int32} {rpt : Int32} {rph : AR} {rgr : AR} {rca : AR} {rne : AR} {rap : AR} {rle : AR} {rfu : AR} {rba : Int32} {rru : Int32} {rti : Int32} {rtk : Int32} {rsv : Int32} (qwa qgi qlo qtu rgi rpa : AR) (rth : Int32) (ht : t < 512) (hR : Rel t n qph qgr qne qap qle qfu qpc qgd qri qnw qtk qsv rpt rph rgr rca rne rap rle rfu rba rru rti rtk rsv) : (X0_points qpc) = ((X1_points rpt).1) ∧ Rel (t + 1) n qph qgr qne qap qle qfu qpc qgd qri qnw qtk qsv rpt rph rgr rca rne rap rle rfu rba rru rti rtk rsv := by
  have hU := Rel.up hR
  exact ⟨by rw [X0_points, X1_points, hR.1.2.1, hR.1.2.2], hU⟩
theorem R_taken {t n : Nat} {qph : AR} {qgr : AR} {qne : AR} {qap : AR} {qle : AR} {qfu : AR} {qpc : Int32} {qgd : Int32} {qri : Int32} {qnw : Int32} {qtk : Int32} {qsv : Int32} {rpt : Int32} {rph : AR} {rgr : AR} {rca : AR} {rne : AR} {rap : AR} {rle : AR} {rfu : AR} {rba : Int32} {rru : Int32} {rti : Int32} {rtk : Int32} {rsv : Int32} (qwa qgi qlo qtu rgi rpa : AR) (rth : Int32) (ht : t < 512) (hR : Rel t n qph qgr qne qap qle qfu qpc qgd qri qnw qtk qsv rpt rph rgr rca rne rap rle rfu rba rru rti rtk rsv) : (X0_taken qtk) = ((X1_taken rtk).1) ∧ Rel (t + 1) n qph qgr qne qap qle qfu qpc qgd qri qnw qtk qsv rpt rph rgr rca rne rap rle rfu rba rru rti rtk rsv := by
  have hU := Rel.up hR
  exact ⟨hR.2.2.2.2.2.2.2.2.2.1.symm, hU⟩
theorem R_served {t n : Nat} {qph : AR} {qgr : AR} {qne : AR} {qap : AR} {qle : AR} {qfu : AR} {qpc : Int32} {qgd : Int32} {qri : Int32} {qnw : Int32} {qtk : Int32} {qsv : Int32} {rpt : Int32} {rph : AR} {rgr : AR} {rca : AR} {rne : AR} {rap : AR} {rle : AR} {rfu : AR} {rba : Int32} {rru : Int32} {rti : Int32} {rtk : Int32} {rsv : Int32} (qwa qgi qlo qtu rgi rpa : AR) (rth : Int32) (ht : t < 512) (hR : Rel t n qph qgr qne qap qle qfu qpc qgd qri qnw qtk qsv rpt rph rgr rca rne rap rle rfu rba rru rti rtk rsv) : (X0_served qsv) = ((X1_served rsv).1) ∧ Rel (t + 1) n qph qgr qne qap qle qfu qpc qgd qri qnw qtk qsv rpt rph rgr rca rne rap rle rfu rba rru rti rtk rsv := by
  have hU := Rel.up hR
  exact ⟨hR.2.2.2.2.2.2.2.2.2.2.symm, hU⟩
theorem R_need_ok {t n : Nat} {qph : AR} {qgr : AR} {qne : AR} {qap : AR} {qle : AR} {qfu : AR} {qpc : Int32} {qgd : Int32} {qri : Int32} {qnw : Int32} {qtk : Int32} {qsv : Int32} {rpt : Int32} {rph : AR} {rgr : AR} {rca : AR} {rne : AR} {rap : AR} {rle : AR} {rfu : AR} {rba : Int32} {rru : Int32} {rti : Int32} {rtk : Int32} {rsv : Int32} (qwa qgi qlo qtu rgi rpa : AR) (rth : Int32) (i1 : Int32) (ht : t < 512) (hR : Rel t n qph qgr qne qap qle qfu qpc qgd qri qnw qtk qsv rpt rph rgr rca rne rap rle rfu rba rru rti rtk rsv) (hok : (X0_need_T qpc n i1) = 0) : ((X1_need rpt rca rne n i1).2) = 0 ∧ (X0_need qne qpc n i1) = ((X1_need rpt rca rne n i1).1) ∧ Rel (t + 1) n qph qgr qne qap qle qfu qpc qgd qri qnw qtk qsv rpt rph rgr rca rne rap rle rfu rba rru rti rtk rsv := by
  have hU := Rel.up hR
  rw [X0_need_T] at hok
  rcases pcase hR i1 with ⟨k, hk, e, P0, P1, ek⟩ | ⟨P0, P1⟩
  · rw [X0_need, X1_need, if_pos P0, P1, if_neg pz, ek]
    rcases hR.2.2.1 k hk with ⟨x, y⟩ | ⟨x, y, -⟩
    · rw [if_pos x]; exact ⟨rfl, y, hU⟩
    · rw [if_neg (by rw [x]; decide)]; exact ⟨rfl, y, hU⟩
  · exfalso; simp [P0] at hok
theorem R_need_bad {t n : Nat} {qph : AR} {qgr : AR} {qne : AR} {qap : AR} {qle : AR} {qfu : AR} {qpc : Int32} {qgd : Int32} {qri : Int32} {qnw : Int32} {qtk : Int32} {qsv : Int32} {rpt : Int32} {rph : AR} {rgr : AR} {rca : AR} {rne : AR} {rap : AR} {rle : AR} {rfu : AR} {rba : Int32} {rru : Int32} {rti : Int32} {rtk : Int32} {rsv : Int32} (qwa qgi qlo qtu rgi rpa : AR) (rth : Int32) (i1 : Int32) (ht : t < 512) (hR : Rel t n qph qgr qne qap qle qfu qpc qgd qri qnw qtk qsv rpt rph rgr rca rne rap rle rfu rba rru rti rtk rsv) (hbad : ¬ (X0_need_T qpc n i1) = 0) : ((X1_need rpt rca rne n i1).2) = (X0_need_T qpc n i1) ∧ Rel (t + 1) n qph qgr qne qap qle qfu qpc qgd qri qnw qtk qsv rpt rph rgr rca rne rap rle rfu rba rru rti rtk rsv := by
  have hU := Rel.up hR
  rw [X0_need_T] at hbad ⊢; rw [X1_need]
  rcases pcase hR i1 with ⟨k, hk, e, P0, P1, ek⟩ | ⟨P0, P1⟩
  · exfalso; simp [P0] at hbad
  · rw [P1, if_pos po, if_neg P0]; exact ⟨rfl, hU⟩
theorem R_left_ok {t n : Nat} {qph : AR} {qgr : AR} {qne : AR} {qap : AR} {qle : AR} {qfu : AR} {qpc : Int32} {qgd : Int32} {qri : Int32} {qnw : Int32} {qtk : Int32} {qsv : Int32} {rpt : Int32} {rph : AR} {rgr : AR} {rca : AR} {rne : AR} {rap : AR} {rle : AR} {rfu : AR} {rba : Int32} {rru : Int32} {rti : Int32} {rtk : Int32} {rsv : Int32} (qwa qgi qlo qtu rgi rpa : AR) (rth : Int32) (i1 : Int32) (ht : t < 512) (hR : Rel t n qph qgr qne qap qle qfu qpc qgd qri qnw qtk qsv rpt rph rgr rca rne rap rle rfu rba rru rti rtk rsv) (hok : (X0_left_T qpc n i1) = 0) : ((X1_left rpt rca rle rti n i1).2) = 0 ∧ (X0_left qne qle qpc qnw n i1) = ((X1_left rpt rca rle rti n i1).1) ∧ Rel (t + 1) n qph qgr qne qap qle qfu qpc qgd qri qnw qtk qsv rpt rph rgr rca rne rap rle rfu rba rru rti rtk rsv := by
  have hU := Rel.up hR
  rw [X0_left_T] at hok
  rcases pcase hR i1 with ⟨k, hk, e, P0, P1, ek⟩ | ⟨P0, P1⟩
  · rw [X0_left, X1_left, if_pos P0, P1, if_neg pz, ek]
    have g := Rel.car hR hk
    rw [← e] at g
    by_cases x : rca k = 0
    · rw [if_pos x, if_pos (g.mpr x)]; exact ⟨rfl, rfl, hU⟩
    · rw [if_neg x, if_neg (fun y => x (g.mp y))]
      have hs := RB_stl (Rel.rb (by omega) hR) hk x
      rw [← e] at hs
      exact ⟨rfl, hs, hU⟩
  · exfalso; simp [P0] at hok
theorem R_left_bad {t n : Nat} {qph : AR} {qgr : AR} {qne : AR} {qap : AR} {qle : AR} {qfu : AR} {qpc : Int32} {qgd : Int32} {qri : Int32} {qnw : Int32} {qtk : Int32} {qsv : Int32} {rpt : Int32} {rph : AR} {rgr : AR} {rca : AR} {rne : AR} {rap : AR} {rle : AR} {rfu : AR} {rba : Int32} {rru : Int32} {rti : Int32} {rtk : Int32} {rsv : Int32} (qwa qgi qlo qtu rgi rpa : AR) (rth : Int32) (i1 : Int32) (ht : t < 512) (hR : Rel t n qph qgr qne qap qle qfu qpc qgd qri qnw qtk qsv rpt rph rgr rca rne rap rle rfu rba rru rti rtk rsv) (hbad : ¬ (X0_left_T qpc n i1) = 0) : ((X1_left rpt rca rle rti n i1).2) = (X0_left_T qpc n i1) ∧ Rel (t + 1) n qph qgr qne qap qle qfu qpc qgd qri qnw qtk qsv rpt rph rgr rca rne rap rle rfu rba rru rti rtk rsv := by
  have hU := Rel.up hR
  rw [X0_left_T] at hbad ⊢; rw [X1_left]
  rcases pcase hR i1 with ⟨k, hk, e, P0, P1, ek⟩ | ⟨P0, P1⟩
  · exfalso; simp [P0] at hbad
  · rw [P1, if_pos po, if_neg P0]; exact ⟨rfl, hU⟩
theorem R_laxity_ok {t n : Nat} {qph : AR} {qgr : AR} {qne : AR} {qap : AR} {qle : AR} {qfu : AR} {qpc : Int32} {qgd : Int32} {qri : Int32} {qnw : Int32} {qtk : Int32} {qsv : Int32} {rpt : Int32} {rph : AR} {rgr : AR} {rca : AR} {rne : AR} {rap : AR} {rle : AR} {rfu : AR} {rba : Int32} {rru : Int32} {rti : Int32} {rtk : Int32} {rsv : Int32} (qwa qgi qlo qtu rgi rpa : AR) (rth : Int32) (i1 : Int32) (ht : t < 512) (hR : Rel t n qph qgr qne qap qle qfu qpc qgd qri qnw qtk qsv rpt rph rgr rca rne rap rle rfu rba rru rti rtk rsv) (hok : (X0_laxity_T qne qpc n i1) = 0) : ((X1_laxity rpt rph rgr rca rne rap rle rti n i1).2) = 0 ∧ (X0_laxity qph qgr qne qap qle qpc qnw n i1) = ((X1_laxity rpt rph rgr rca rne rap rle rti n i1).1) ∧ Rel (t + 1) n qph qgr qne qap qle qfu qpc qgd qri qnw qtk qsv rpt rph rgr rca rne rap rle rfu rba rru rti rtk rsv := by
  have hU := Rel.up hR
  rw [X0_laxity_T] at hok
  rcases pcase hR i1 with ⟨k, hk, e, P0, P1, ek⟩ | ⟨P0, P1⟩
  · have f : X0_requireCar_T qne i1 = 0 := by
      by_cases f : X0_requireCar_T qne i1 = 0
      · exact f
      · exfalso; simp [P0, f] at hok
    have g : ¬ rca k = 0 := (Rel.rcar hR hk).mp (by rw [← e]; exact f)
    have hs := RB_lax (Rel.rb (by omega) hR) hk g
    rw [← e] at hs
    rw [X0_laxity, X1_laxity, if_pos P0, if_pos f, P1, if_neg pz, ek, if_neg g]
    exact ⟨rfl, hs, hU⟩
  · exfalso; simp [P0] at hok
theorem R_laxity_bad {t n : Nat} {qph : AR} {qgr : AR} {qne : AR} {qap : AR} {qle : AR} {qfu : AR} {qpc : Int32} {qgd : Int32} {qri : Int32} {qnw : Int32} {qtk : Int32} {qsv : Int32} {rpt : Int32} {rph : AR} {rgr : AR} {rca : AR} {rne : AR} {rap : AR} {rle : AR} {rfu : AR} {rba : Int32} {rru : Int32} {rti : Int32} {rtk : Int32} {rsv : Int32} (qwa qgi qlo qtu rgi rpa : AR) (rth : Int32) (i1 : Int32) (ht : t < 512) (hR : Rel t n qph qgr qne qap qle qfu qpc qgd qri qnw qtk qsv rpt rph rgr rca rne rap rle rfu rba rru rti rtk rsv) (hbad : ¬ (X0_laxity_T qne qpc n i1) = 0) : ((X1_laxity rpt rph rgr rca rne rap rle rti n i1).2) = (X0_laxity_T qne qpc n i1) ∧ Rel (t + 1) n qph qgr qne qap qle qfu qpc qgd qri qnw qtk qsv rpt rph rgr rca rne rap rle rfu rba rru rti rtk rsv := by
  have hU := Rel.up hR
  rw [X0_laxity_T] at hbad ⊢; rw [X1_laxity]
  rcases pcase hR i1 with ⟨k, hk, e, P0, P1, ek⟩ | ⟨P0, P1⟩
  · rw [P1, if_neg pz, if_pos P0, ek]; rw [if_pos P0] at hbad
    have g := Rel.rcar hR hk
    rw [← e] at g
    by_cases f : X0_requireCar_T qne i1 = 0
    · exfalso; simp [f] at hbad
    · have f2 : rca k = 0 := by
        by_cases x : rca k = 0
        · exact x
        · exact absurd (g.mpr x) f
      rw [if_neg f, if_pos f2]; exact ⟨rfl, hU⟩
  · rw [P1, if_pos po, if_neg P0]; exact ⟨rfl, hU⟩
theorem R_reach_ok {t n : Nat} {qph : AR} {qgr : AR} {qne : AR} {qap : AR} {qle : AR} {qfu : AR} {qpc : Int32} {qgd : Int32} {qri : Int32} {qnw : Int32} {qtk : Int32} {qsv : Int32} {rpt : Int32} {rph : AR} {rgr : AR} {rca : AR} {rne : AR} {rap : AR} {rle : AR} {rfu : AR} {rba : Int32} {rru : Int32} {rti : Int32} {rtk : Int32} {rsv : Int32} (qwa qgi qlo qtu rgi rpa : AR) (rth : Int32) (i1 : Int32) (ht : t < 512) (hR : Rel t n qph qgr qne qap qle qfu qpc qgd qri qnw qtk qsv rpt rph rgr rca rne rap rle rfu rba rru rti rtk rsv) (hok : (X0_reach_T qpc n i1) = 0) : ((X1_reach rpt rph rgr rca rne rap rle rti n i1).2) = 0 ∧ (X0_reach qph qgr qne qap qle qpc qnw n i1) = ((X1_reach rpt rph rgr rca rne rap rle rti n i1).1) ∧ Rel (t + 1) n qph qgr qne qap qle qfu qpc qgd qri qnw qtk qsv rpt rph rgr rca rne rap rle rfu rba rru rti rtk rsv := by
  have hU := Rel.up hR
  rw [X0_reach_T] at hok
  rcases pcase hR i1 with ⟨k, hk, e, P0, P1, ek⟩ | ⟨P0, P1⟩
  · have hs := RB_reach (Rel.rb (by omega) hR) hk
    rw [← e] at hs
    rw [X0_reach, X1_reach, if_pos P0, P1, if_neg pz]
    exact ⟨rfl, hs, hU⟩
  · exfalso; simp [P0] at hok
theorem R_reach_bad {t n : Nat} {qph : AR} {qgr : AR} {qne : AR} {qap : AR} {qle : AR} {qfu : AR} {qpc : Int32} {qgd : Int32} {qri : Int32} {qnw : Int32} {qtk : Int32} {qsv : Int32} {rpt : Int32} {rph : AR} {rgr : AR} {rca : AR} {rne : AR} {rap : AR} {rle : AR} {rfu : AR} {rba : Int32} {rru : Int32} {rti : Int32} {rtk : Int32} {rsv : Int32} (qwa qgi qlo qtu rgi rpa : AR) (rth : Int32) (i1 : Int32) (ht : t < 512) (hR : Rel t n qph qgr qne qap qle qfu qpc qgd qri qnw qtk qsv rpt rph rgr rca rne rap rle rfu rba rru rti rtk rsv) (hbad : ¬ (X0_reach_T qpc n i1) = 0) : ((X1_reach rpt rph rgr rca rne rap rle rti n i1).2) = (X0_reach_T qpc n i1) ∧ Rel (t + 1) n qph qgr qne qap qle qfu qpc qgd qri qnw qtk qsv rpt rph rgr rca rne rap rle rfu rba rru rti rtk rsv := by
  have hU := Rel.up hR
  rw [X0_reach_T] at hbad ⊢; rw [X1_reach]
  rcases pcase hR i1 with ⟨k, hk, e, P0, P1, ek⟩ | ⟨P0, P1⟩
  · exfalso; simp [P0] at hbad
  · rw [P1, if_pos po, if_neg P0]; exact ⟨rfl, hU⟩
theorem R_current_ok {t n : Nat} {qph : AR} {qgr : AR} {qne : AR} {qap : AR} {qle : AR} {qfu : AR} {qpc : Int32} {qgd : Int32} {qri : Int32} {qnw : Int32} {qtk : Int32} {qsv : Int32} {rpt : Int32} {rph : AR} {rgr : AR} {rca : AR} {rne : AR} {rap : AR} {rle : AR} {rfu : AR} {rba : Int32} {rru : Int32} {rti : Int32} {rtk : Int32} {rsv : Int32} (qwa qgi qlo qtu rgi rpa : AR) (rth : Int32) (i1 : Int32) (ht : t < 512) (hR : Rel t n qph qgr qne qap qle qfu qpc qgd qri qnw qtk qsv rpt rph rgr rca rne rap rle rfu rba rru rti rtk rsv) (hok : (X0_current_T qpc n i1) = 0) : ((X1_current rpt rph rgr rca rne rap rle rfu rba rru rti rgi rpa n i1).2.2.2) = 0 ∧ ((X0_current qph qgr qne qap qle qfu qpc qgd qri qnw qwa qgi qlo qtu n i1).1) = ((X1_current rpt rph rgr rca rne rap rle rfu rba rru rti rgi rpa n i1).1) ∧ Rel (t + 1) n qph qgr qne qap qle qfu qpc qgd qri qnw qtk qsv rpt rph rgr rca rne rap rle rfu rba rru rti rtk rsv := by
  have hU := Rel.up hR
  have hS := shares_eq (qwa := qwa) (qgi := qgi) (qlo := qlo) (qtu := qtu) (rgi := rgi) (rpa := rpa) (Rel.rb (by omega) hR) hR.2.2.2.2.2.2.1.1 hR.2.2.2.2.2.2.2.1
  rw [X0_current_T] at hok
  rcases pcase hR i1 with ⟨k, hk, e, P0, P1, ek⟩ | ⟨P0, P1⟩
  · rw [X0_current, X1_current, if_pos P0, P1, if_neg pz, ek]
    exact ⟨rfl, hS.2.1.1 k hk, hU⟩
  · exfalso; simp [P0] at hok
theorem R_current_bad {t n : Nat} {qph : AR} {qgr : AR} {qne : AR} {qap : AR} {qle : AR} {qfu : AR} {qpc : Int32} {qgd : Int32} {qri : Int32} {qnw : Int32} {qtk : Int32} {qsv : Int32} {rpt : Int32} {rph : AR} {rgr : AR} {rca : AR} {rne : AR} {rap : AR} {rle : AR} {rfu : AR} {rba : Int32} {rru : Int32} {rti : Int32} {rtk : Int32} {rsv : Int32} (qwa qgi qlo qtu rgi rpa : AR) (rth : Int32) (i1 : Int32) (ht : t < 512) (hR : Rel t n qph qgr qne qap qle qfu qpc qgd qri qnw qtk qsv rpt rph rgr rca rne rap rle rfu rba rru rti rtk rsv) (hbad : ¬ (X0_current_T qpc n i1) = 0) : ((X1_current rpt rph rgr rca rne rap rle rfu rba rru rti rgi rpa n i1).2.2.2) = (X0_current_T qpc n i1) ∧ Rel (t + 1) n qph qgr qne qap qle qfu qpc qgd qri qnw qtk qsv rpt rph rgr rca rne rap rle rfu rba rru rti rtk rsv := by
  have hU := Rel.up hR
  rw [X0_current_T] at hbad ⊢; rw [X1_current]
  rcases pcase hR i1 with ⟨k, hk, e, P0, P1, ek⟩ | ⟨P0, P1⟩
  · exfalso; simp [P0] at hbad
  · rw [P1, if_pos po, if_neg P0]; exact ⟨rfl, hU⟩
theorem R_load_ok {t n : Nat} {qph : AR} {qgr : AR} {qne : AR} {qap : AR} {qle : AR} {qfu : AR} {qpc : Int32} {qgd : Int32} {qri : Int32} {qnw : Int32} {qtk : Int32} {qsv : Int32} {rpt : Int32} {rph : AR} {rgr : AR} {rca : AR} {rne : AR} {rap : AR} {rle : AR} {rfu : AR} {rba : Int32} {rru : Int32} {rti : Int32} {rtk : Int32} {rsv : Int32} (qwa qgi qlo qtu rgi rpa : AR) (rth : Int32) (i1 : Int32) (ht : t < 512) (hR : Rel t n qph qgr qne qap qle qfu qpc qgd qri qnw qtk qsv rpt rph rgr rca rne rap rle rfu rba rru rti rtk rsv) (hok : (X0_load_T n i1) = 0) : ((X1_load rph rgr rca rne rap rle rfu rba rru rti rgi rpa n i1).2.2.2) = 0 ∧ ((X0_load qph qgr qne qap qle qfu qgd qri qnw qwa qgi qlo qtu n i1).1) = ((X1_load rph rgr rca rne rap rle rfu rba rru rti rgi rpa n i1).1) ∧ Rel (t + 1) n qph qgr qne qap qle qfu qpc qgd qri qnw qtk qsv rpt rph rgr rca rne rap rle rfu rba rru rti rtk rsv := by
  have hU := Rel.up hR
  have hS := shares_eq (qwa := qwa) (qgi := qgi) (qlo := qlo) (qtu := qtu) (rgi := rgi) (rpa := rpa) (Rel.rb (by omega) hR) hR.2.2.2.2.2.2.1.1 hR.2.2.2.2.2.2.2.1
  rw [X0_load_T] at hok; simp only [rph_in] at hok
  have a : ¬ X1_isIn i1 0 2 = 0 := fun c => by simp [c] at hok
  obtain ⟨k, hk, rfl⟩ := ph_nat a
  rw [X0_load, X1_load, if_pos (rph_in.mpr a), if_neg a, ck (by omega)]
  exact ⟨rfl, hS.2.1.2 k hk, hU⟩
theorem R_load_bad {t n : Nat} {qph : AR} {qgr : AR} {qne : AR} {qap : AR} {qle : AR} {qfu : AR} {qpc : Int32} {qgd : Int32} {qri : Int32} {qnw : Int32} {qtk : Int32} {qsv : Int32} {rpt : Int32} {rph : AR} {rgr : AR} {rca : AR} {rne : AR} {rap : AR} {rle : AR} {rfu : AR} {rba : Int32} {rru : Int32} {rti : Int32} {rtk : Int32} {rsv : Int32} (qwa qgi qlo qtu rgi rpa : AR) (rth : Int32) (i1 : Int32) (ht : t < 512) (hR : Rel t n qph qgr qne qap qle qfu qpc qgd qri qnw qtk qsv rpt rph rgr rca rne rap rle rfu rba rru rti rtk rsv) (hbad : ¬ (X0_load_T n i1) = 0) : ((X1_load rph rgr rca rne rap rle rfu rba rru rti rgi rpa n i1).2.2.2) = (X0_load_T n i1) ∧ Rel (t + 1) n qph qgr qne qap qle qfu qpc qgd qri qnw qtk qsv rpt rph rgr rca rne rap rle rfu rba rru rti rtk rsv := by
  have hU := Rel.up hR
  rw [X0_load_T] at hbad ⊢; rw [X1_load]; simp only [rph_in] at hbad ⊢
  by_cases a : X1_isIn i1 0 2 = 0
  · simp only [a, if_true, not_true, if_false]; exact ⟨trivial, hU⟩
  · exfalso; simp [a] at hbad
theorem R_imbalance {t n : Nat} {qph : AR} {qgr : AR} {qne : AR} {qap : AR} {qle : AR} {qfu : AR} {qpc : Int32} {qgd : Int32} {qri : Int32} {qnw : Int32} {qtk : Int32} {qsv : Int32} {rpt : Int32} {rph : AR} {rgr : AR} {rca : AR} {rne : AR} {rap : AR} {rle : AR} {rfu : AR} {rba : Int32} {rru : Int32} {rti : Int32} {rtk : Int32} {rsv : Int32} (qwa qgi qlo qtu rgi rpa : AR) (rth : Int32) (ht : t < 512) (hR : Rel t n qph qgr qne qap qle qfu qpc qgd qri qnw qtk qsv rpt rph rgr rca rne rap rle rfu rba rru rti rtk rsv) : ((X0_imbalance qph qgr qne qap qle qfu qgd qri qnw qwa qgi qlo qtu n).1) = ((X1_imbalance rph rgr rca rne rap rle rfu rba rru rti rgi rpa n).1) ∧ Rel (t + 1) n qph qgr qne qap qle qfu qpc qgd qri qnw qtk qsv rpt rph rgr rca rne rap rle rfu rba rru rti rtk rsv := by
  have hU := Rel.up hR
  have hS := shares_eq (qwa := qwa) (qgi := qgi) (qlo := qlo) (qtu := qtu) (rgi := rgi) (rpa := rpa) (Rel.rb (by omega) hR) hR.2.2.2.2.2.2.1.1 hR.2.2.2.2.2.2.2.1
  rw [X0_imbalance, X1_imbalance]
  exact ⟨SR_diff hS.2.1, hU⟩
theorem R_held {t n : Nat} {qph : AR} {qgr : AR} {qne : AR} {qap : AR} {qle : AR} {qfu : AR} {qpc : Int32} {qgd : Int32} {qri : Int32} {qnw : Int32} {qtk : Int32} {qsv : Int32} {rpt : Int32} {rph : AR} {rgr : AR} {rca : AR} {rne : AR} {rap : AR} {rle : AR} {rfu : AR} {rba : Int32} {rru : Int32} {rti : Int32} {rtk : Int32} {rsv : Int32} (qwa qgi qlo qtu rgi rpa : AR) (rth : Int32) (ht : t < 512) (hR : Rel t n qph qgr qne qap qle qfu qpc qgd qri qnw qtk qsv rpt rph rgr rca rne rap rle rfu rba rru rti rtk rsv) : ((X0_held qph qgr qne qap qle qfu qgd qri qnw qwa qgi qlo qtu n).1) = ((X1_held rph rgr rca rne rap rle rfu rba rru rti rgi rpa n).1) ∧ Rel (t + 1) n qph qgr qne qap qle qfu qpc qgd qri qnw qtk qsv rpt rph rgr rca rne rap rle rfu rba rru rti rtk rsv := by
  have hU := Rel.up hR
  have hH := held_eq (qwa := qwa) (qgi := qgi) (qlo := qlo) (qtu := qtu) (rgi := rgi) (rpa := rpa) (Rel.rb (by omega) hR) hR.2.2.2.2.2.2.1.1 hR.2.2.2.2.2.2.2.1 n 0 0 (by omega)
  rw [X0_held, X1_held]
  exact ⟨hH, hU⟩
theorem R_fairLevel_ok {t n : Nat} {qph : AR} {qgr : AR} {qne : AR} {qap : AR} {qle : AR} {qfu : AR} {qpc : Int32} {qgd : Int32} {qri : Int32} {qnw : Int32} {qtk : Int32} {qsv : Int32} {rpt : Int32} {rph : AR} {rgr : AR} {rca : AR} {rne : AR} {rap : AR} {rle : AR} {rfu : AR} {rba : Int32} {rru : Int32} {rti : Int32} {rtk : Int32} {rsv : Int32} (qwa qgi qlo qtu rgi rpa : AR) (rth : Int32) (i1 : Int32) (ht : t < 512) (hR : Rel t n qph qgr qne qap qle qfu qpc qgd qri qnw qtk qsv rpt rph rgr rca rne rap rle rfu rba rru rti rtk rsv) (hok : (X0_fairLevel_T n i1) = 0) : ((X1_fairLevel rph rgr rca rne rap rle rfu rba rru rti rgi rpa n i1).2.2.2) = 0 ∧ ((X0_fairLevel qph qgr qne qap qle qfu qgd qri qnw qwa qgi qlo qtu n i1).1) = ((X1_fairLevel rph rgr rca rne rap rle rfu rba rru rti rgi rpa n i1).1) ∧ Rel (t + 1) n qph qgr qne qap qle qfu qpc qgd qri qnw qtk qsv rpt rph rgr rca rne rap rle rfu rba rru rti rtk rsv := by
  have hU := Rel.up hR
  rw [X0_fairLevel_T] at hok; simp only [rph_in] at hok
  have a : ¬ X1_isIn i1 0 2 = 0 := fun c => by simp [c] at hok
  obtain ⟨k, hk, rfl⟩ := ph_nat a
  have hc := level_core (p := k) (qwa := qwa) (qgi := qgi) (qlo := qlo) (qtu := qtu) (rgi := rgi) (rpa := rpa) (Rel.rb (by omega) hR) hR.2.2.2.2.2.2.1.1 hR.2.2.2.2.2.2.2.1 hk
  rw [X0_fairLevel, X1_fairLevel, if_pos (rph_in.mpr a), if_neg a, ck (by omega), hc.2]
  split
  · exact ⟨rfl, rfl, hU⟩
  · exact ⟨rfl, rfl, hU⟩
theorem R_fairLevel_bad {t n : Nat} {qph : AR} {qgr : AR} {qne : AR} {qap : AR} {qle : AR} {qfu : AR} {qpc : Int32} {qgd : Int32} {qri : Int32} {qnw : Int32} {qtk : Int32} {qsv : Int32} {rpt : Int32} {rph : AR} {rgr : AR} {rca : AR} {rne : AR} {rap : AR} {rle : AR} {rfu : AR} {rba : Int32} {rru : Int32} {rti : Int32} {rtk : Int32} {rsv : Int32} (qwa qgi qlo qtu rgi rpa : AR) (rth : Int32) (i1 : Int32) (ht : t < 512) (hR : Rel t n qph qgr qne qap qle qfu qpc qgd qri qnw qtk qsv rpt rph rgr rca rne rap rle rfu rba rru rti rtk rsv) (hbad : ¬ (X0_fairLevel_T n i1) = 0) : ((X1_fairLevel rph rgr rca rne rap rle rfu rba rru rti rgi rpa n i1).2.2.2) = (X0_fairLevel_T n i1) ∧ Rel (t + 1) n qph qgr qne qap qle qfu qpc qgd qri qnw qtk qsv rpt rph rgr rca rne rap rle rfu rba rru rti rtk rsv := by
  have hU := Rel.up hR
  rw [X0_fairLevel_T] at hbad ⊢; rw [X1_fairLevel]; simp only [rph_in] at hbad ⊢
  by_cases a : X1_isIn i1 0 2 = 0
  · simp only [a, if_true, not_true, if_false]; exact ⟨trivial, hU⟩
  · exfalso; simp [a] at hbad
theorem R_canBeReady {t n : Nat} {qph : AR} {qgr : AR} {qne : AR} {qap : AR} {qle : AR} {qfu : AR} {qpc : Int32} {qgd : Int32} {qri : Int32} {qnw : Int32} {qtk : Int32} {qsv : Int32} {rpt : Int32} {rph : AR} {rgr : AR} {rca : AR} {rne : AR} {rap : AR} {rle : AR} {rfu : AR} {rba : Int32} {rru : Int32} {rti : Int32} {rtk : Int32} {rsv : Int32} (qwa qgi qlo qtu rgi rpa : AR) (rth : Int32) (ht : t < 512) (hR : Rel t n qph qgr qne qap qle qfu qpc qgd qri qnw qtk qsv rpt rph rgr rca rne rap rle rfu rba rru rti rtk rsv) : (X0_canBeReady qph qgr qne qap qle qnw n) = ((X1_canBeReady rph rgr rca rne rap rle rti n).1) ∧ Rel (t + 1) n qph qgr qne qap qle qfu qpc qgd qri qnw qtk qsv rpt rph rgr rca rne rap rle rfu rba rru rti rtk rsv := by
  have hU := Rel.up hR
  have hH := ready_eq (Rel.rb (by omega) hR) n 0 1 (by omega) (Or.inr rfl)
  rw [if_neg (by decide)] at hH
  rw [X0_canBeReady, X1_canBeReady]
  exact ⟨hH.symm, hU⟩
theorem R_fairLevel_m {t n : Nat} {qph : AR} {qgr : AR} {qne : AR} {qap : AR} {qle : AR} {qfu : AR} {qpc : Int32} {qgd : Int32} {qri : Int32} {qnw : Int32} {qtk : Int32} {qsv : Int32} {rpt : Int32} {rph : AR} {rgr : AR} {rca : AR} {rne : AR} {rap : AR} {rle : AR} {rfu : AR} {rba : Int32} {rru : Int32} {rti : Int32} {rtk : Int32} {rsv : Int32} {rgi rpa : AR} (i1 : Int32) (ht : t < 512) (hR : Rel t n qph qgr qne qap qle qfu qpc qgd qri qnw qtk qsv rpt rph rgr rca rne rap rle rfu rba rru rti rtk rsv) : ¬ X1_isIn i1 0 2 = 0 → (X1_fairLevel_L46 rph rgr rca rne rap rle rfu rba rru rti rgi rpa n i1 n 0 (rfu i1.toNatClampNeg) 0 0).1 < (X1_fairLevel_L46 rph rgr rca rne rap rle rfu rba rru rti rgi rpa n i1 n 0 (rfu i1.toNatClampNeg) 0 0).2.1 → ¬ (X1_fairLevel_L150 rph rgr rca rne rap rle rti n i1 32 1 (X1_fairLevel_L46 rph rgr rca rne rap rle rfu rba rru rti rgi rpa n i1 n 0 (rfu i1.toNatClampNeg) 0 0).1 (X1_fairLevel_L46 rph rgr rca rne rap rle rfu rba rru rti rgi rpa n i1 n 0 (rfu i1.toNatClampNeg) 0 0).2.2).2 = 0 := by
  intro a
  obtain ⟨k, hk, rfl⟩ := ph_nat a
  have hc := level_core (p := k) (qwa := fun _ => 0) (qgi := fun _ => 0) (qlo := fun _ => 0) (qtu := fun _ => 0) (rgi := rgi) (rpa := rpa) (Rel.rb (by omega) hR) hR.2.2.2.2.2.2.1.1 hR.2.2.2.2.2.2.2.1 hk
  rw [ck (by omega)]
  exact hc.1
