/-- the park and the model agree, behind t calls, with n points -/
def Rel (t n : Nat) (qph qgr qne qap qle qfu : AR) (qpc qgd qri qnw qtk qsv : Int32) (rpt : Int32) (rph rgr rca rne rap rle rfu : AR) (rba rru rti rtk rsv : Int32) : Prop :=
  (n ≤ 8 ∧ qpc = nI n ∧ rpt = nI n) ∧
  (∀ k, k < n → rph k = qph k ∧ rgr k = qgr k ∧ (0 ≤ (qph k).toInt ∧ (qph k).toInt ≤ 3) ∧ 6 ≤ (qgr k).toInt ∧ (qgr k).toInt ≤ 32) ∧
  (∀ k, k < n → (rca k = 0 ∧ qne k = -1) ∨ (rca k = 1 ∧ qne k = rne k ∧ rap k = qap k ∧ rle k = qle k ∧ (1 ≤ (qap k).toInt ∧ (qap k).toInt ≤ 32) ∧ 0 ≤ (qle k).toInt ∧ (qle k).toInt ≤ 600 * (t : Int))) ∧
  (∀ k, k < 8 → 0 ≤ (rne k).toInt ∧ (rne k).toInt ≤ 5000) ∧ (∀ k, n ≤ k → k < 8 → rca k = 0) ∧
  (∀ k, k < 3 → rfu k = qfu k ∧ 0 ≤ (qfu k).toInt ∧ (qfu k).toInt ≤ 100) ∧
  (rba = qgd ∧ 0 ≤ qgd.toInt ∧ qgd.toInt ≤ 100) ∧ (rru = qri ∧ (qri = 0 ∨ qri = 1)) ∧ (rti = qnw ∧ 0 ≤ qnw.toInt ∧ qnw.toInt ≤ 50 * (t : Int)) ∧ rtk = qtk ∧ rsv = qsv
theorem Rel.qpc {t n : Nat} {qph qgr qne qap qle qfu : AR} {qpc qgd qri qnw qtk qsv : Int32} {rpt : Int32} {rph rgr rca rne rap rle rfu : AR} {rba rru rti rtk rsv : Int32} (h : Rel t n qph qgr qne qap qle qfu qpc qgd qri qnw qtk qsv rpt rph rgr rca rne rap rle rfu rba rru rti rtk rsv) : qpc = nI n := h.1.2.1
theorem Rel.n8 {t n : Nat} {qph qgr qne qap qle qfu : AR} {qpc qgd qri qnw qtk qsv : Int32} {rpt : Int32} {rph rgr rca rne rap rle rfu : AR} {rba rru rti rtk rsv : Int32} (h : Rel t n qph qgr qne qap qle qfu qpc qgd qri qnw qtk qsv rpt rph rgr rca rne rap rle rfu rba rru rti rtk rsv) : n ≤ 8 := h.1.1
theorem Rel.rpt {t n : Nat} {qph qgr qne qap qle qfu : AR} {qpc qgd qri qnw qtk qsv : Int32} {rpt : Int32} {rph rgr rca rne rap rle rfu : AR} {rba rru rti rtk rsv : Int32} (h : Rel t n qph qgr qne qap qle qfu qpc qgd qri qnw qtk qsv rpt rph rgr rca rne rap rle rfu rba rru rti rtk rsv) : rpt = nI n := h.1.2.2
theorem Rel.mI {t n : Nat} {qph qgr qne qap qle qfu : AR} {qpc qgd qri qnw qtk qsv : Int32} {rpt : Int32} {rph rgr rca rne rap rle rfu : AR} {rba rru rti rtk rsv : Int32} (h : Rel t n qph qgr qne qap qle qfu qpc qgd qri qnw qtk qsv rpt rph rgr rca rne rap rle rfu rba rru rti rtk rsv) : mI rgr rca rap n := fun k hk => by
  obtain ⟨-, h1, h2, -⟩ := h
  have a := h1 k hk
  refine ⟨by rw [a.2.1]; exact a.2.2.2, fun hc => ?_⟩
  rcases h2 k hk with b | b
  · exact absurd b.1 hc
  · rw [b.2.2.1]; exact b.2.2.2.2.1
theorem Rel.up {t n : Nat} {qph : AR} {qgr : AR} {qne : AR} {qap : AR} {qle : AR} {qfu : AR} {qpc : Int32} {qgd : Int32} {qri : Int32} {qnw : Int32} {qtk : Int32} {qsv : Int32} {rpt : Int32} {rph : AR} {rgr : AR} {rca : AR} {rne : AR} {rap : AR} {rle : AR} {rfu : AR} {rba : Int32} {rru : Int32} {rti : Int32} {rtk : Int32} {rsv : Int32} (hR : Rel t n qph qgr qne qap qle qfu qpc qgd qri qnw qtk qsv rpt rph rgr rca rne rap rle rfu rba rru rti rtk rsv) : Rel (t + 1) n qph qgr qne qap qle qfu qpc qgd qri qnw qtk qsv rpt rph rgr rca rne rap rle rfu rba rru rti rtk rsv := by
  obtain ⟨h1, h2, h3, h4, h5, h6, h7, h8, ⟨h9, h10, h11⟩, h12, h13⟩ := hR
  refine ⟨h1, h2, fun k hk => ?_, h4, h5, h6, h7, h8, ⟨h9, h10, by omega⟩, h12, h13⟩
  rcases h3 k hk with h | ⟨a, b, c, d, e, f, g⟩
  · exact Or.inl h
  · exact Or.inr ⟨a, b, c, d, e, f, by omega⟩
