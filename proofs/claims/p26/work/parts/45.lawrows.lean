theorem w_ok {x lo hi : Int32} (h : lo.toInt ≤ x.toInt ∧ x.toInt ≤ hi.toInt) : X0_requireWithin_T x lo hi = 0 := rw_in.mpr (in_iff.mpr h)
theorem ph_ok {x : Int32} (h : 0 ≤ x.toInt ∧ x.toInt ≤ 2) : X0_requirePhase_T x = 0 := rph_in.mpr (in_iff.mpr h)
theorem pt_ok {n q : Nat} (hn : n ≤ 8) (hq : q < n) : X0_requirePoint_T (nI n) (nI q) = 0 := (pt_iff hn).mpr ⟨q, hq, rfl⟩
section
variable {t n : Nat} {qph qgr qne qap qle qfu : AR} {qpc qgd qri qnw qtk qsv : Int32}
theorem lw_point {N M : Nat} (hpc : qpc = nI n) (hn : n < 8) (hN : N < 4) (hM : M < 27) : X0_point_T qpc n (nI N) (nI (6 + M)) = 0 := by
  have e := nI_toInt (n := N) (by omega)
  have e2 := nI_toInt (n := 6 + M) (by omega)
  have h1 : qpc < 8 := by rw [hpc, i_lt, nI_toInt (by omega)]; show (n : Int) < 8; omega
  have w := w_ok (x := nI (6 + M)) (lo := 6) (hi := 32) ⟨by rw [e2]; show (6 : Int) ≤ _; omega, by rw [e2]; show _ ≤ (32 : Int); omega⟩
  rw [X0_point_T]
  by_cases c : nI N = 3
  · rw [if_pos c, if_pos w, if_pos h1]
  · have c2 : N ≠ 3 := fun x => c (by rw [x]; rfl)
    rw [if_neg c, if_pos (ph_ok ⟨by rw [e]; omega, by rw [e]; omega⟩), if_pos w, if_pos h1]
theorem lw_point_v {f g : Int32} (h : X0_point_T qpc n f g = 0) : (X0_point qph qgr qne qpc n f g).1 = qpc := by rw [X0_point_eq h]
theorem lw_need {q : Nat} (hpc : qpc = nI n) (hn : n ≤ 8) (hq : q < n) : X0_need_T qpc n (nI q) = 0 ∧ X0_need qne qpc n (nI q) = qne q := by
  have p : X0_requirePoint_T qpc (nI q) = 0 := by rw [hpc]; exact pt_ok hn hq
  exact ⟨by rw [X0_need_T, if_pos p], by rw [X0_need, if_pos p, ck (by omega)]⟩
theorem lw_take {q : Nat} (hpc : qpc = nI n) (hn : n ≤ 8) (hq : q < n) (hc : 0 ≤ (qne q).toInt) : X0_takeOut_T qne qpc n (nI q) = 0 := by
  have p : X0_requirePoint_T qpc (nI q) = 0 := by rw [hpc]; exact pt_ok hn hq
  have e : ¬ qne q = -1 := fun x => by rw [x, i_m1] at hc; omega
  have n1 : ¬ (1 : Int32) = 0 := by decide
  rw [X0_takeOut_T, if_pos p, X0_requireCar_T, X0_hasCar, ck (by omega), if_neg e, if_neg n1, if_pos rfl]
theorem lw_plug {q a b c : Nat} (hpc : qpc = nI n) (hn : n ≤ 8) (hq : q < n) (ha : a < 5000) (hb : b < 32) (hc : c < 500) : X0_plugIn_T qne qpc n (nI q) (nI (1 + a)) (nI (1 + b)) (nI (1 + c)) = if qne q = -1 then 0 else 3 := by
  have p : X0_requirePoint_T qpc (nI q) = 0 := by rw [hpc]; exact pt_ok hn hq
  have ea := nI_toInt (n := 1 + a) (by omega)
  have eb := nI_toInt (n := 1 + b) (by omega)
  have ec := nI_toInt (n := 1 + c) (by omega)
  have wa := w_ok (x := nI (1 + a)) (lo := 1) (hi := 5000) ⟨by rw [ea]; show (1 : Int) ≤ _; omega, by rw [ea]; show _ ≤ (5000 : Int); omega⟩
  have wb := w_ok (x := nI (1 + b)) (lo := 1) (hi := 32) ⟨by rw [eb]; show (1 : Int) ≤ _; omega, by rw [eb]; show _ ≤ (32 : Int); omega⟩
  have wc := w_ok (x := nI (1 + c)) (lo := 1) (hi := 500) ⟨by rw [ec]; show (1 : Int) ≤ _; omega, by rw [ec]; show _ ≤ (500 : Int); omega⟩
  have n1 : ¬ (1 : Int32) = 0 := by decide
  rw [X0_plugIn_T, if_pos p, if_pos wa, if_pos wb, if_pos wc, X0_hasCar, ck (by omega)]
  by_cases d : qne q = -1
  · rw [if_pos d, if_pos rfl, if_pos d]
  · rw [if_neg d, if_neg n1, if_neg d]
theorem dv_le {a b : Int32} (ha : 1 ≤ a.toInt ∧ a.toInt ≤ 5000) (hb : 1 ≤ b.toInt ∧ b.toInt ≤ 96) : 0 ≤ (X0_dividedRoundedUp a b).toInt ∧ (X0_dividedRoundedUp a b).toInt ≤ a.toInt := by
  have c : (1 : Int32) ≤ b := by rw [i_le, i_1]; omega
  rw [X0_dividedRoundedUp, if_pos c]
  have e1 : (a + b).toInt = a.toInt + b.toInt := i_add (by omega) (by omega)
  have e2 : (a + b - 1).toInt = a.toInt + b.toInt - 1 := by rw [i_sub (by rw [e1, i_1]; omega) (by rw [e1, i_1]; omega), e1, i_1]
  have e3 : ((a + b - 1) / b).toInt = (a.toInt + b.toInt - 1) / b.toInt := by rw [i_div (by rw [e2]; omega) (by omega), e2]
  rw [e3]
  refine ⟨Int.ediv_nonneg (by omega) (by omega), ?_⟩
  have h1 : (a.toInt + b.toInt - 1) / b.toInt < a.toInt + 1 := by
    apply Int.ediv_lt_of_lt_mul (by omega)
    have : 0 ≤ a.toInt * (b.toInt - 1) := Int.mul_nonneg (by omega) (by omega)
    have e4 : (a.toInt + 1) * b.toInt = a.toInt * (b.toInt - 1) + a.toInt + b.toInt := by
      rw [Int.mul_sub, Int.add_mul, Int.mul_one, Int.one_mul]; omega
    rw [e4]; omega
  omega
theorem lw_plug_ge {q a b c : Nat} (I : Iv t n qph qgr qne qap qle qfu qpc qgd qri qnw) (ht : t < 512) (hq : q < n) (ha : a < 5000) (hb : b < 32) (hc : c < 500) (hT : X0_plugIn_T qne qpc n (nI q) (nI (1 + a)) (nI (1 + b)) (nI (1 + c)) = 0) : -(1 + (a : Int)) ≤ (X0_plugIn qph qgr qne qap qle qpc qnw n (nI q) (nI (1 + a)) (nI (1 + b)) (nI (1 + c))).1.toInt ∧ (X0_plugIn qph qgr qne qap qle qpc qnw n (nI q) (nI (1 + a)) (nI (1 + b)) (nI (1 + c))).2.1 q = nI (1 + a) := by
  have h8 : q < 8 := by have := I.1; omega
  have ea := nI_toInt (n := 1 + a) (by omega)
  have eb := nI_toInt (n := 1 + b) (by omega)
  have ec := nI_toInt (n := 1 + c) (by omega)
  rw [X0_plugIn_eq hT]
  dsimp only
  rw [ck h8]
  refine ⟨?_, upd_at⟩
  have hw := I.2.2.2.2.2.2.2
  have hg := (I.2.2.1 q hq).2
  have e1 : (qnw + nI (1 + c)).toInt = qnw.toInt + (1 + (c : Int)) := by rw [i_add (by rw [ec]; omega) (by rw [ec]; omega), ec]; omega
  have e2 : (qnw + nI (1 + c) - qnw).toInt = 1 + (c : Int) := by rw [i_sub (by rw [e1]; omega) (by rw [e1]; omega), e1]; omega
  have s1 : X0_stepsLeftAt (upd qle q (qnw + nI (1 + c))) qnw (nI q) = qnw + nI (1 + c) - qnw := by
    rw [X0_stepsLeftAt, ck h8, upd_at, if_neg (by rw [i_lt, e2, i_0]; omega)]
  have m1 : 1 ≤ (X0_lesserOfGreatestAndAppetite qgr (upd qap q (nI (1 + b))) (nI q)).toInt ∧ (X0_lesserOfGreatestAndAppetite qgr (upd qap q (nI (1 + b))) (nI q)).toInt ≤ 32 := by
    rw [X0_lesserOfGreatestAndAppetite, ck h8, upd_at]
    split
    · rw [eb]; omega
    · omega
  have u1 : X0_unitsPerAmpere qph (nI q) = 3 ∨ X0_unitsPerAmpere qph (nI q) = 1 := by
    rw [X0_unitsPerAmpere]; split
    · exact Or.inl rfl
    · exact Or.inr rfl
  rw [X0_laxityAt, s1, ck h8, upd_at]
  generalize X0_lesserOfGreatestAndAppetite qgr (upd qap q (nI (1 + b))) (nI q) = M at m1 ⊢
  generalize X0_unitsPerAmpere qph (nI q) = U at u1 ⊢
  have mu : 1 ≤ (M * U).toInt ∧ (M * U).toInt ≤ 96 := by
    rcases u1 with e | e <;> rw [e, i_mul] <;> simp only [i_3, i_1] <;> omega
  have d := dv_le (a := nI (1 + a)) (b := M * U) ⟨by rw [ea]; omega, by rw [ea]; omega⟩ mu
  rw [ea] at d
  rw [i_sub (by rw [e2]; omega) (by rw [e2]; omega), e2]
  omega
theorem lw_step {a : Nat} (ha : a < 4) : X0_step_T n (nI (1 + a)) = 0 := by
  have ea := nI_toInt (n := 1 + a) (by omega)
  rw [X0_step_T, if_pos (w_ok ⟨by rw [ea]; show (1 : Int) ≤ _; omega, by rw [ea]; show _ ≤ (50 : Int); omega⟩)]
end
theorem lw_rem {a d : Nat} {D : Int32} (hD : D = nI d) (ha : a < 2 ^ 31) (h0 : 0 < d) (hd : d < 2 ^ 31) : nI a - nI a / D * D = nI (a % d) := by rw [hD]; exact pk_rem ha h0 hd
theorem lw_ush (x : Int32) : ∃ m, m < 33554432 ∧ (x.toUInt32 >>> ((7 : Int32).toUInt32 &&& Int32.toUInt32 31)).toInt32 = nI m := by
  have h := pk_ushr x 7 7 (by decide)
  refine ⟨x.toBitVec.toNat / 2 ^ 7, ?_, ?_⟩
  · have := x.toBitVec.isLt
    omega
  · apply Int32.toBitVec_inj.mp
    apply BitVec.eq_of_toNat_eq
    rw [h]
    have := x.toBitVec.isLt
    show _ = (BitVec.ofNat 32 (x.toBitVec.toNat / 2 ^ 7)).toNat
    rw [BitVec.toNat_ofNat, Nat.mod_eq_of_lt (by omega)]
