theorem sF_zero {F : Nat → Int} : ∀ (j k : Nat), (∀ i, k ≤ i → i < k + j → F i = 0) → sF F j k = 0 := by
  intro j; induction j with
  | zero => intro k _; rfl
  | succ j ih => intro k h; rw [sF, h k (by omega) (by omega), ih (k + 1) (fun i a b => h i (by omega) (by omega))]; rfl
section
variable {n p : Nat} {qph qgr qne qap qle qfu : AR} {qnw : Int32} {rph rgr rca rne rap rle rfu : AR} {rti : Int32}
theorem lv_start {r : Nat → Int} {v : Nat} : lvL n p rph r v 1 0 = 0 ∧ lvM n p rph r v 1 0 = lvM n p rph r 0 1 0 := by
  have nd : ∀ w i, ¬ lvD r w 1 0 i := fun w i c => by obtain ⟨a, b, c⟩ := c; omega
  refine ⟨sF_zero n 0 (fun i _ _ => if_neg (fun c => nd v i c.2)), sF_congr n 0 (fun i _ _ => ?_)⟩
  by_cases z : rph i = nI p ∧ 0 < r i
  · rw [if_pos ⟨z.1, z.2, nd v i⟩, if_pos ⟨z.1, z.2, nd 0 i⟩]
  · rw [if_neg (fun c => z ⟨c.1, c.2.1⟩), if_neg (fun c => z ⟨c.1, c.2.1⟩)]
theorem search_yes {qgd qri qnw0 : Int32} {qwa qgi qlo qtu : AR} {fr : Int} {r : Nat → Int} {v : Nat} (hn : n ≤ 8) (hr : ∀ i, i < n → 0 ≤ r i ∧ r i ≤ 32) (hp : p < 3) (hf : 0 ≤ fr ∧ fr ≤ 100)
    (hu : ∀ v, v ≤ 32 → (X0_usedAtLevel qph (X0_shareCurrents qph qgr qne qap qle qfu qgd qri qnw0 qwa qgi qlo qtu n).1 n (nI p) (nI v)).toInt = lvU n p rph r v)
    (hg : (qfu p - X0_givenAtAllPhases qph (X0_shareCurrents qph qgr qne qap qle qfu qgd qri qnw0 qwa qgi qlo qtu n).2.1 n).toInt = fr) (hv : v < 32) (hv1 : lvU n p rph r v ≤ fr) (hv2 : fr < lvU n p rph r (v + 1)) : ∀ (j k : Nat), k + j = 32 → k ≤ v → (X0_fairLevel_L22 qph qgr qne qap qle qfu qgd qri qnw0 qwa qgi qlo qtu n (nI p) j k).1.toInt = 1000 * (v : Int) + (1000 * (fr - lvU n p rph r v)) / (lvU n p rph r (v + 1) - lvU n p rph r v) := by
  intro j; induction j with
  | zero => intro k h1 h2; omega
  | succ j ih =>
    intro k h1 h2
    have u0 := hu k (by omega)
    have u1 := hu (k + 1) (by omega)
    have b0 := lvU_bnd (p := p) (rph := rph) (v := k) (by omega) hr
    have b1 := lvU_bnd (p := p) (rph := rph) (v := k + 1) (by omega) hr
    have ih1 := fun (h : k + 1 ≤ v) => ih (k + 1) (by omega) h
    rw [X0_fairLevel_L22, nI_1, ck (by omega)]
    generalize X0_usedAtLevel qph (X0_shareCurrents qph qgr qne qap qle qfu qgd qri qnw0 qwa qgi qlo qtu n).1 n (nI p) (nI (k + 1)) = U1 at *
    generalize X0_usedAtLevel qph (X0_shareCurrents qph qgr qne qap qle qfu qgd qri qnw0 qwa qgi qlo qtu n).1 n (nI p) (nI k) = U0 at *
    generalize qfu p - X0_givenAtAllPhases qph (X0_shareCurrents qph qgr qne qap qle qfu qgd qri qnw0 qwa qgi qlo qtu n).2.1 n = FR at *
    have es : (U1 - U0).toInt = lvU n p rph r (k + 1) - lvU n p rph r k := by rw [i_sub (by omega) (by omega), u0, u1]
    have ea : U0 + (U1 - U0) = U1 := by grind
    rw [ea]
    by_cases e : k = v
    · subst e
      have n1 : ¬ U1 - U0 ≤ 0 := by rw [i_le, es, i_0]; omega
      have n2 : ¬ U1 ≤ FR := by rw [i_le, u1, hg]; omega
      rw [if_neg n1, if_neg n2]
      dsimp only
      have q1 : (1000 : Int32).toInt = 1000 := rfl
      have ek : (nI k).toInt = (k : Int) := nI_toInt (by omega)
      have e1 : (1000 * nI k).toInt = 1000 * (k : Int) := by rw [i_mul (by rw [q1, ek]; omega) (by rw [q1, ek]; omega), q1, ek]
      have e2 : (FR - U0).toInt = fr - lvU n p rph r k := by rw [i_sub (by omega) (by omega), hg, u0]
      have e3 : (1000 * (FR - U0)).toInt = 1000 * (fr - lvU n p rph r k) := by rw [i_mul (by rw [q1, e2]; omega) (by rw [q1, e2]; omega), q1, e2]
      have e4 : (1000 * (FR - U0) / (U1 - U0)).toInt = (1000 * (fr - lvU n p rph r k)) / (lvU n p rph r (k + 1) - lvU n p rph r k) := by rw [i_div (by rw [e3]; omega) (by rw [es]; omega), e3, es]
      have b4 : 0 ≤ (1000 * (fr - lvU n p rph r k)) / (lvU n p rph r (k + 1) - lvU n p rph r k) := Int.ediv_nonneg (by omega) (by omega)
      have b5 : (1000 * (fr - lvU n p rph r k)) / (lvU n p rph r (k + 1) - lvU n p rph r k) ≤ 1000 * (fr - lvU n p rph r k) := Int.ediv_le_self _ (by omega)
      rw [i_add (by rw [e1, e4]; omega) (by rw [e1, e4]; omega), e1, e4]
    · have m1 := lvU_mono (n := n) (p := p) (rph := rph) (r := r) (show k + 1 ≤ v by omega)
      have y2 : U1 ≤ FR := by rw [i_le, u1, hg]; omega
      rw [if_pos y2]
      split
      · exact ih1 (by omega)
      · exact ih1 (by omega)
theorem search_no {qgd qri qnw0 : Int32} {qwa qgi qlo qtu : AR} {fr : Int} {r : Nat → Int} (hp : p < 3)
    (hu : ∀ v, v ≤ 32 → (X0_usedAtLevel qph (X0_shareCurrents qph qgr qne qap qle qfu qgd qri qnw0 qwa qgi qlo qtu n).1 n (nI p) (nI v)).toInt = lvU n p rph r v)
    (hg : (qfu p - X0_givenAtAllPhases qph (X0_shareCurrents qph qgr qne qap qle qfu qgd qri qnw0 qwa qgi qlo qtu n).2.1 n).toInt = fr) (hv : lvU n p rph r 32 ≤ fr) : ∀ (j k : Nat), k + j = 32 → (X0_fairLevel_L22 qph qgr qne qap qle qfu qgd qri qnw0 qwa qgi qlo qtu n (nI p) j k).1 = -1 := by
  intro j; induction j with
  | zero => intro k _; rfl
  | succ j ih =>
    intro k h1
    have u1 := hu (k + 1) (by omega)
    have ih1 := ih (k + 1) (by omega)
    have m1 := lvU_mono (n := n) (p := p) (rph := rph) (r := r) (show k + 1 ≤ 32 by omega)
    rw [X0_fairLevel_L22, nI_1, ck (by omega)]
    generalize X0_usedAtLevel qph (X0_shareCurrents qph qgr qne qap qle qfu qgd qri qnw0 qwa qgi qlo qtu n).1 n (nI p) (nI (k + 1)) = U1 at *
    generalize X0_usedAtLevel qph (X0_shareCurrents qph qgr qne qap qle qfu qgd qri qnw0 qwa qgi qlo qtu n).1 n (nI p) (nI k) = U0 at *
    generalize qfu p - X0_givenAtAllPhases qph (X0_shareCurrents qph qgr qne qap qle qfu qgd qri qnw0 qwa qgi qlo qtu n).2.1 n = FR at *
    have ea : U0 + (U1 - U0) = U1 := by grind
    have y2 : U1 ≤ FR := by rw [i_le, u1, hg]; omega
    rw [ea, if_pos y2]
    split
    · exact ih1
    · exact ih1
theorem level_core {qgd qri rba rru : Int32} {qwa qgi qlo qtu rgi rpa : AR} (hB : RB n qph qgr qne qap qle qfu qnw rph rgr rca rne rap rle rfu rti) (hba : rba = qgd) (hru : rru = qri ∧ (qri = 0 ∨ qri = 1)) (hp : p < 3) :
    ((X1_fairLevel_L46 rph rgr rca rne rap rle rfu rba rru rti rgi rpa n (nI p) n 0 (rfu p) 0 0).1 < (X1_fairLevel_L46 rph rgr rca rne rap rle rfu rba rru rti rgi rpa n (nI p) n 0 (rfu p) 0 0).2.1 → ¬ (X1_fairLevel_L150 rph rgr rca rne rap rle rti n (nI p) 32 1 (X1_fairLevel_L46 rph rgr rca rne rap rle rfu rba rru rti rgi rpa n (nI p) n 0 (rfu p) 0 0).1 (X1_fairLevel_L46 rph rgr rca rne rap rle rfu rba rru rti rgi rpa n (nI p) n 0 (rfu p) 0 0).2.2).2 = 0) ∧
    (X0_fairLevel_L22 qph qgr qne qap qle qfu qgd qri qnw qwa qgi qlo qtu n (nI p) 32 0).1 = (if (X1_fairLevel_L46 rph rgr rca rne rap rle rfu rba rru rti rgi rpa n (nI p) n 0 (rfu p) 0 0).1 < (X1_fairLevel_L46 rph rgr rca rne rap rle rfu rba rru rti rgi rpa n (nI p) n 0 (rfu p) 0 0).2.1 then (1000 * (X1_fairLevel_L150 rph rgr rca rne rap rle rti n (nI p) 32 1 (X1_fairLevel_L46 rph rgr rca rne rap rle rfu rba rru rti rgi rpa n (nI p) n 0 (rfu p) 0 0).1 (X1_fairLevel_L46 rph rgr rca rne rap rle rfu rba rru rti rgi rpa n (nI p) n 0 (rfu p) 0 0).2.2).1) / (X1_fairLevel_L150 rph rgr rca rne rap rle rti n (nI p) 32 1 (X1_fairLevel_L46 rph rgr rca rne rap rle rfu rba rru rti rgi rpa n (nI p) n 0 (rfu p) 0 0).1 (X1_fairLevel_L46 rph rgr rca rne rap rle rfu rba rru rti rgi rpa n (nI p) n 0 (rfu p) 0 0).2.2).2 else -1) := by
  have hn := hB.1
  have hS := shares_eq (qwa := qwa) (qgi := qgi) (qlo := qlo) (qtu := qtu) (rgi := rgi) (rpa := rpa) hB hba hru
  have hph : ∀ k, k < n → rph k = qph k := fun k hk => (hB.2.1 k hk).1
  have hfu := hB.2.2.2.2.1 p hp
  obtain ⟨r, hrd⟩ : ∃ r : Nat → Int, r = fun k => (X1_reaches rph rgr rca rne rap rle rti (nI k)).toInt := ⟨_, rfl⟩
  have hR : ∀ k, k < n → (X1_reaches rph rgr rca rne rap rle rti (nI k)).toInt = r k := fun k _ => by rw [hrd]
  have hr : ∀ i, i < n → 0 ≤ r i ∧ r i ≤ 32 := fun i hi => by rw [← hR i hi]; exact ⟨RB_reach0 hB hi, RB_reachR hB hi⟩
  obtain ⟨g, hgd⟩ : ∃ g : Nat → Int, g = fun k => ((X1_shares rph rgr rca rne rap rle rfu rba rru rti rgi rpa n).1 k).toInt := ⟨_, rfl⟩
  have hw : ∀ k, k < n → ((X1_shares rph rgr rca rne rap rle rfu rba rru rti rgi rpa n).1 k).toInt = g k := fun k _ => by rw [hgd]
  have hg : ∀ i, i < n → 0 ≤ g i ∧ g i ≤ 32 := fun i hi => by rw [← hw i hi]; exact hS.2.2.1 i hi
  obtain ⟨G3, hG3⟩ : ∃ G3, sF (fun i => if rph i = 3 then g i else 0) n 0 = G3 := ⟨_, rfl⟩
  have bG3 : 0 ≤ G3 ∧ G3 ≤ ((32 * n : Nat) : Int) := by
    rw [← hG3]
    refine sF_bnd n 0 (fun i _ hi => ?_)
    have := hg i (by omega)
    split <;> omega
  have fl := flows_ge (p := p) (rph := rph) hn hw hg n 0 0 (by omega) (by decide) (by rw [i_0]; omega)
  rw [hG3, i_0] at fl
  have lf := (hS.2.2.2 p hp).2
  rw [X1_flows] at lf
  have e1 := hfu.1
  have hfr : 0 ≤ (qfu p).toInt - G3 ∧ (qfu p).toInt - G3 ≤ 100 := by rw [e1] at lf; omega
  have l46 := l46_int (rfu := rfu) (rgi := rgi) (rpa := rpa) hn hp hw hg hR hr n 0 (rfu p) 0 0 (by omega) (by rw [e1]; omega) (by rw [e1]; omega) (by decide) (by rw [i_0]; omega) (by decide) (by rw [i_0]; omega)
  rw [hG3, e1, i_0] at l46
  have hu : ∀ v, v ≤ 32 → (X0_usedAtLevel qph (X0_shareCurrents qph qgr qne qap qle qfu qgd qri qnw qwa qgi qlo qtu n).1 n (nI p) (nI v)).toInt = lvU n p rph r v := fun v hv => by
    rw [X0_usedAtLevel, used_int hn hv hph (fun k hk => by rw [hS.1 k hk, hR k hk]) hr n 0 0 (by omega) (by decide) (by rw [i_0]; omega), i_0, lvU]; omega
  have hgv : (qfu p - X0_givenAtAllPhases qph (X0_shareCurrents qph qgr qne qap qle qfu qgd qri qnw qwa qgi qlo qtu n).2.1 n).toInt = (qfu p).toInt - G3 := by
    have e2 : (X0_givenAtAllPhases qph (X0_shareCurrents qph qgr qne qap qle qfu qgd qri qnw qwa qgi qlo qtu n).2.1 n).toInt = G3 := by
      rw [X0_givenAtAllPhases, given_int hn hph (fun k hk => by rw [hS.2.1.1 k hk, hw k hk]) hg n 0 0 (by omega) (by decide) (by rw [i_0]; omega), i_0, hG3]; omega
    rw [i_sub (by omega) (by omega), e2]
  rw [e1]
  generalize X1_fairLevel_L46 rph rgr rca rne rap rle rfu rba rru rti rgi rpa n (nI p) n 0 (qfu p) 0 0 = L at l46 ⊢
  obtain ⟨l1, l2, l3⟩ := l46
  have l2 : L.2.1.toInt = lvU n p rph r 32 := by rw [l2, lvU]; omega
  have l3 : L.2.2.toInt = lvM n p rph r 0 1 0 := by rw [l3, lvM]; omega
  by_cases c : L.1 < L.2.1
  · have c2 : (qfu p).toInt - G3 < lvU n p rph r 32 := by rw [i_lt, l1, l2] at c; exact c
    have z0 : lvU n p rph r 0 = 0 := sF_zero n 0 (fun i _ hi => by have := hr i (by omega); split <;> omega)
    obtain ⟨v, v1, v2, v3⟩ := lvU_find (n := n) (p := p) (rph := rph) (r := r) (fr := (qfu p).toInt - G3) (by omega) 32 c2
    have st := lv_start (n := n) (p := p) (rph := rph) (r := r) (v := v)
    have w := walk150 (rgr := rgr) (rca := rca) (rne := rne) (rap := rap) (rle := rle) (rti := rti) hn hR hr hfr v2 v3 32 1 L.1 L.2.2 (by omega) (by omega) (by rw [l1, st.1]; omega) (by rw [l3, st.2])
    have en := lv_end (p := p) (rph := rph) (v := v) hr
    have bL := lvL_bnd (n := n) (p := p) (rph := rph) (v := v) (k := 33) (q := 0) hr
    have sy := search_yes (qgr := qgr) (qne := qne) (qap := qap) (qle := qle) (qgd := qgd) (qri := qri) (qnw0 := qnw) (qwa := qwa) (qgi := qgi) (qlo := qlo) (qtu := qtu) hn hr hp hfr hu hgv v1 v2 v3 32 0 (by omega) (by omega)
    generalize X1_fairLevel_L150 rph rgr rca rne rap rle rti n (nI p) 32 1 L.1 L.2.2 = K at w ⊢
    have cp : 0 < K.2.toInt := by rw [w.2, en.1]; omega
    refine ⟨fun _ z => ?_, ?_⟩
    · rw [z, i_0] at cp; omega
    · rw [if_pos c]
      apply Int32.toInt_inj.mp
      have q1 : (1000 : Int32).toInt = 1000 := rfl
      have vM : 0 ≤ (v : Int) * lvM n p rph r v 33 0 := Int.mul_nonneg (by omega) (by rw [en.1]; omega)
      have kx : K.1.toInt = ((qfu p).toInt - G3 - lvU n p rph r v) + (v : Int) * lvM n p rph r v 33 0 := by rw [w.1]; omega
      have k0 : 0 ≤ K.1.toInt ∧ K.1.toInt ≤ 100 := by rw [w.1]; rw [w.1] at kx; omega
      have e3 : (1000 * K.1).toInt = 1000 * K.1.toInt := by rw [i_mul (by rw [q1]; omega) (by rw [q1]; omega), q1]
      rw [sy, i_div (by rw [e3]; omega) cp, e3, w.2, kx, ← en.1]
      have e4 : 1000 * ((qfu p).toInt - G3 - lvU n p rph r v + (v : Int) * lvM n p rph r v 33 0) = 1000 * ((qfu p).toInt - G3 - lvU n p rph r v) + (1000 * (v : Int)) * lvM n p rph r v 33 0 := by rw [Int.mul_add, Int.mul_assoc]
      rw [e4, Int.add_mul_ediv_right _ _ (by rw [w.2] at cp; omega)]
      omega
  · refine ⟨fun h => absurd h c, ?_⟩
    rw [if_neg c]
    have c2 : lvU n p rph r 32 ≤ (qfu p).toInt - G3 := by rw [i_lt, l1, l2] at c; omega
    exact search_no hp hu hgv c2 32 0 (by omega)
end
