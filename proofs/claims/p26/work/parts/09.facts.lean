theorem i_le {a b : Int32} : a ≤ b ↔ a.toInt ≤ b.toInt := Int32.le_iff_toInt_le
theorem i_lt {a b : Int32} : a < b ↔ a.toInt < b.toInt := Int32.lt_iff_toInt_lt
theorem isIn_ne {x lo hi : Int32} (h : ¬ X1_isIn x lo hi = 0) : lo.toInt ≤ x.toInt ∧ x.toInt ≤ hi.toInt := by
  rw [X1_isIn] at h
  split at h
  · exact absurd rfl h
  · split at h
    · exact absurd rfl h
    · rename_i h1 h2
      rw [i_lt] at h1 h2
      omega
theorem isIn_eq {x lo hi : Int32} (h : X1_isIn x lo hi = 0) : x.toInt < lo.toInt ∨ hi.toInt < x.toInt := by
  rw [X1_isIn] at h
  split at h
  · rename_i h1; rw [i_lt] at h1; exact Or.inl h1
  · split at h
    · rename_i h1; rw [i_lt] at h1; exact Or.inr h1
    · exact absurd h (by decide)
theorem nat_of {x : Int32} {N : Nat} (h0 : 0 ≤ x.toInt) (h1 : x.toInt ≤ N) (hN : N < 2 ^ 31) : x = nI x.toNatClampNeg ∧ x.toNatClampNeg ≤ N ∧ (x.toNatClampNeg : Int) = x.toInt := by
  obtain ⟨j, hj, rfl⟩ : ∃ j : Nat, j ≤ N ∧ x = nI j := by
    refine ⟨x.toInt.toNat, by omega, ?_⟩
    apply Int32.toInt_inj.mp
    rw [nI_toInt (by omega)]
    omega
  rw [nI_clamp (by omega), nI_toInt (by omega)]
  exact ⟨rfl, hj, rfl⟩
theorem isIn_3 {f : Int32} (h : ¬ X1_isIn f 0 2 = 0) : vp_in f 3 := by
  have h1 := isIn_ne h
  have e0 : (0 : Int32).toInt = 0 := rfl
  have e2 : (2 : Int32).toInt = 2 := rfl
  rw [vp_in_iff]
  omega
theorem isIn_50 {i : Int32} (h : ¬ X1_isIn i 1 50 = 0) : i = nI i.toNatClampNeg ∧ i.toNatClampNeg ≤ 50 := by
  have h1 := isIn_ne h
  have e0 : (1 : Int32).toInt = 1 := rfl
  have e2 : (50 : Int32).toInt = 50 := rfl
  have h2 := nat_of (x := i) (N := 50) (by omega) (by omega) (by omega)
  exact ⟨h2.1, h2.2.1⟩
theorem pt_in {rpt : Int32} {n : Nat} (hpc : rpt = nI n) (hn : n ≤ 8) (h : ¬ rpt = 8) : vp_in rpt 8 := by
  rw [hpc] at h ⊢
  have h8 : ¬ n = 8 := fun e => h (by rw [e]; rfl)
  exact vp_in_nI (by omega) (by decide)
theorem isPoint_nat {rpt i : Int32} {n : Nat} (hpc : rpt = nI n) (hn : n ≤ 8) (h : ¬ (X1_isPoint rpt i).1 = 0) : i = nI i.toNatClampNeg ∧ i.toNatClampNeg < n ∧ (i.toNatClampNeg : Int) = i.toInt := by
  rw [X1_isPoint] at h
  split at h
  · exact absurd rfl h
  · rename_i h1
    have h2 := isIn_ne h1
    have e0 : (0 : Int32).toInt = 0 := rfl
    rcases Nat.eq_zero_or_pos n with q | q
    · subst q
      have : (rpt - 1).toInt = -1 := by rw [hpc]; rfl
      omega
    · have : (rpt - 1).toInt = ((n - 1 : Nat) : Int) := by
        rw [hpc]
        obtain ⟨m, rfl⟩ : ∃ m, n = m + 1 := ⟨n - 1, by omega⟩
        rw [nI_pred, nI_toInt (by omega)]
        rfl
      have h3 := nat_of (x := i) (N := n - 1) (by omega) (by omega) (by omega)
      exact ⟨h3.1, by omega, h3.2.2⟩
theorem isPoint_in {rpt i : Int32} {n : Nat} (hpc : rpt = nI n) (hn : n ≤ 8) (h : ¬ (X1_isPoint rpt i).1 = 0) : vp_in i 8 := by
  have h1 := isPoint_nat hpc hn h
  rw [vp_in_iff]
  omega
theorem mI_nz_i {rpt i : Int32} {rph rgr rca rap : AR} {n : Nat} (hpc : rpt = nI n) (hn : n ≤ 8) (hI : mI rgr rca rap n) (h : ¬ (X1_isPoint rpt i).1 = 0) (hc : ¬ rca i.toNatClampNeg = 0) : ¬ (X1_most rgr rap i * X1_times rph i) = 0 := by
  have h1 := isPoint_nat hpc hn h
  have h2 := hI i.toNatClampNeg h1.2.1
  exact X1_mt_nz h2.1 (h2.2 hc)
theorem plug_nz {rpt i x : Int32} {rph rgr rca rap : AR} {n : Nat} (hpc : rpt = nI n) (hn : n ≤ 8) (hI : mI rgr rca rap n) (h : ¬ (X1_isPoint rpt i).1 = 0) (hx : ¬ X1_isIn x 1 32 = 0) : ¬ (X1_most rgr (upd rap i.toNatClampNeg x) i * X1_times rph i) = 0 := by
  have h1 := isPoint_nat hpc hn h
  have h2 := hI i.toNatClampNeg h1.2.1
  have h3 := isIn_ne hx
  have e0 : (1 : Int32).toInt = 1 := rfl
  have e2 : (32 : Int32).toInt = 32 := rfl
  refine X1_mt_nz h2.1 ?_
  have e : upd rap i.toNatClampNeg x i.toNatClampNeg = x := by unfold upd; rw [if_pos rfl]
  rw [e]
  omega
