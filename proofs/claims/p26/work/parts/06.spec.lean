def X1_thrown (rth : Int32)  : Int32 := rth
def X1_isIn (nu : Int32) (lw : Int32) (hg : Int32) : Int32 := (if nu < lw then 0 else (if hg < nu then 0 else 1))
def X1_stepsLeft (rle : AR) (rti : Int32) (i : Int32) : Int32 := (if (rle i.toNatClampNeg) ≤ rti then 0 else ((rle i.toNatClampNeg) - rti))
def X1_times (rph : AR) (i : Int32) : Int32 := (if (rph i.toNatClampNeg) = 3 then 3 else 1)
def X1_up (nu : Int32) (by_ : Int32) : Int32 := (((nu + by_) - 1) / by_)
def X1_most (rgr : AR) (rap : AR) (i : Int32) : Int32 := (if (rap i.toNatClampNeg) ≤ (rgr i.toNatClampNeg) then (rap i.toNatClampNeg) else (rgr i.toNatClampNeg))
def X1_lax (rph : AR) (rgr : AR) (rne : AR) (rap : AR) (rle : AR) (rti : Int32) (i : Int32) : Int32 := ((X1_stepsLeft rle rti i) - (X1_up (rne i.toNatClampNeg) ((X1_most rgr rap i) * (X1_times rph i))))
theorem X1_times_nz (rph : AR) (i : Int32) : ¬ X1_times rph i = 0 := by
  rw [X1_times]
  split <;> decide
def X1_reaches (rph : AR) (rgr : AR) (rca : AR) (rne : AR) (rap : AR) (rle : AR) (rti : Int32) (i : Int32) : Int32 := (if (X1_most rgr rap i) ≤ (X1_up (rne i.toNatClampNeg) (X1_times rph i)) then (if (rca i.toNatClampNeg) = 0 then 0 else (if (X1_stepsLeft rle rti i) ≤ 0 then 0 else (X1_most rgr rap i))) else (if (rca i.toNatClampNeg) = 0 then 0 else (if (X1_stepsLeft rle rti i) ≤ 0 then 0 else (X1_up (rne i.toNatClampNeg) (X1_times rph i)))))
theorem X1_reaches_car {rph rgr rca rne rap rle : AR} {rti : Int32} {i : Int32} (h : ¬ X1_reaches rph rgr rca rne rap rle rti i ≤ 0) : ¬ rca i.toNatClampNeg = 0 := by
  intro e
  apply h
  rw [X1_reaches]
  split
  · decide
  · decide
def X1_isPoint (rpt : Int32) (i : Int32) : Int32 × Int32 := (if (X1_isIn i 0 (rpt - 1)) = 0 then (0, 1) else (1, 0))
/-- what the model's points and cars keep -/
def mI (rgr rca rap : AR) (n : Nat) : Prop := ∀ k, k < n → (6 ≤ (rgr k).toInt ∧ (rgr k).toInt ≤ 32) ∧ (¬ rca k = 0 → 1 ≤ (rap k).toInt ∧ (rap k).toInt ≤ 32)
theorem X1_most_rng {rgr rap : AR} {i : Int32} (hg : 6 ≤ (rgr i.toNatClampNeg).toInt ∧ (rgr i.toNatClampNeg).toInt ≤ 32) (ha : 1 ≤ (rap i.toNatClampNeg).toInt ∧ (rap i.toNatClampNeg).toInt ≤ 32) : 1 ≤ (X1_most rgr rap i).toInt ∧ (X1_most rgr rap i).toInt ≤ 32 := by
  rw [X1_most]
  split
  · exact ⟨ha.1, ha.2⟩
  · exact ⟨by omega, hg.2⟩
theorem X1_times_c (rph : AR) (i : Int32) : X1_times rph i = 1 ∨ X1_times rph i = 3 := by
  rw [X1_times]
  split
  · exact Or.inr rfl
  · exact Or.inl rfl
theorem X1_mt_nz {rph rgr rap : AR} {i : Int32} (hg : 6 ≤ (rgr i.toNatClampNeg).toInt ∧ (rgr i.toNatClampNeg).toInt ≤ 32) (ha : 1 ≤ (rap i.toNatClampNeg).toInt ∧ (rap i.toNatClampNeg).toInt ≤ 32) : ¬ (X1_most rgr rap i * X1_times rph i) = 0 := by
  have h := X1_most_rng hg ha
  obtain ⟨j, hj, e⟩ := nI_of2 (x := X1_most rgr rap i) (M := 32) (n := 32) rfl (by rw [Int32.lt_iff_toInt_lt]; show ¬ _ < (0 : Int); omega) (by rw [Int32.le_iff_toInt_le]; exact h.2)
  have hj1 : 1 ≤ j := by
    have : (X1_most rgr rap i).toInt = (j : Int) := by rw [e]; exact nI_toInt (by omega)
    omega
  rw [e]
  rcases X1_times_c rph i with q | q <;> rw [q]
  · show ¬ nI j * nI 1 = 0
    rw [pk_mul]
    exact nI_ne0 (by omega) (by omega)
  · show ¬ nI j * nI 3 = 0
    rw [pk_mul]
    exact nI_ne0 (by omega) (by omega)
theorem mI_nz {rph rgr rca rap : AR} {n k : Nat} (hI : mI rgr rca rap n) (hk : k < n) (hn : n ≤ 8) (hc : ¬ rca (nI k).toNatClampNeg = 0) : ¬ (X1_most rgr rap (nI k) * X1_times rph (nI k)) = 0 := by
  have e : (nI k).toNatClampNeg = k := nI_clamp (by omega)
  rw [e] at hc
  have h := hI k hk
  exact X1_mt_nz (by rw [e]; exact h.1) (by rw [e]; exact h.2 hc)
def X1_flows_L4 (rph : AR) (rgi : AR) (n : Nat) (f : Int32) : Nat → Nat → Int32 → Int32
  | 0, k, su => su
  | j + 1, k, su => (if (rph (nI k).toNatClampNeg) = f then X1_flows_L4 rph rgi n f  j (k + 1) (su + (rgi (nI k).toNatClampNeg)) else (if (rph (nI k).toNatClampNeg) = 3 then X1_flows_L4 rph rgi n f  j (k + 1) (su + (rgi (nI k).toNatClampNeg)) else X1_flows_L4 rph rgi n f  j (k + 1) (su + 0)))
def X1_flows (rph : AR) (rgi : AR) (n : Nat) (f : Int32) : Int32 := ((X1_flows_L4 rph rgi n f  n 0 0))
def X1_room_L5 (rph : AR) (rfu : AR) (rgi : AR) (n : Nat) (i : Int32) : Nat → Nat → Int32 → Int32
  | 0, k, le => le
  | j + 1, k, le => (if (rph i.toNatClampNeg) = (nI k) then (if le ≤ ((rfu (nI k).toNatClampNeg) - (X1_flows rph rgi n (nI k))) then X1_room_L5 rph rfu rgi n i  j (k + 1) le else X1_room_L5 rph rfu rgi n i  j (k + 1) ((rfu (nI k).toNatClampNeg) - (X1_flows rph rgi n (nI k)))) else (if (rph i.toNatClampNeg) = 3 then (if le ≤ ((rfu (nI k).toNatClampNeg) - (X1_flows rph rgi n (nI k))) then X1_room_L5 rph rfu rgi n i  j (k + 1) le else X1_room_L5 rph rfu rgi n i  j (k + 1) ((rfu (nI k).toNatClampNeg) - (X1_flows rph rgi n (nI k)))) else X1_room_L5 rph rfu rgi n i  j (k + 1) le))
def X1_room (rph : AR) (rfu : AR) (rgi : AR) (n : Nat) (i : Int32) : Int32 := ((X1_room_L5 rph rfu rgi n i  3 0 100))
def X1_ahead_L4 (rph : AR) (rgr : AR) (rca : AR) (rne : AR) (rap : AR) (rle : AR) (rti : Int32) (n : Nat) (i : Int32) : Nat → Nat → Int32 → Int32
  | 0, k, su => su
  | j + 1, k, su => (if (X1_reaches rph rgr rca rne rap rle rti (nI k)) ≤ 0 then X1_ahead_L4 rph rgr rca rne rap rle rti n i  j (k + 1) (su + 0) else (if (X1_lax rph rgr rne rap rle rti (nI k)) < (X1_lax rph rgr rne rap rle rti i) then X1_ahead_L4 rph rgr rca rne rap rle rti n i  j (k + 1) (su + 1) else (if (X1_lax rph rgr rne rap rle rti (nI k)) = (X1_lax rph rgr rne rap rle rti i) then (if i ≤ (nI k) then X1_ahead_L4 rph rgr rca rne rap rle rti n i  j (k + 1) (su + 0) else X1_ahead_L4 rph rgr rca rne rap rle rti n i  j (k + 1) (su + 1)) else X1_ahead_L4 rph rgr rca rne rap rle rti n i  j (k + 1) (su + 0))))
def X1_ahead (rph : AR) (rgr : AR) (rca : AR) (rne : AR) (rap : AR) (rle : AR) (rti : Int32) (n : Nat) (i : Int32) : Int32 := ((X1_ahead_L4 rph rgr rca rne rap rle rti n i  n 0 0))
def X1_byLaxity_L12 (rph : AR) (rgr : AR) (rca : AR) (rne : AR) (rap : AR) (rle : AR) (rfu : AR) (rti : Int32) (n : Nat) (k : Nat) : Nat → Nat → AR → AR
  | 0, k2, wgi => wgi
  | j2 + 1, k2, wgi => (if (X1_reaches rph rgr rca rne rap rle rti (nI k2)) ≤ 0 then X1_byLaxity_L12 rph rgr rca rne rap rle rfu rti n k j2 (k2 + 1) wgi else (if (X1_ahead rph rgr rca rne rap rle rti n (nI k2)) = (nI k) then (if (X1_reaches rph rgr rca rne rap rle rti (nI k2)) ≤ (X1_room rph rfu wgi n (nI k2)) then X1_byLaxity_L12 rph rgr rca rne rap rle rfu rti n k j2 (k2 + 1) (upd wgi (nI k2).toNatClampNeg (X1_reaches rph rgr rca rne rap rle rti (nI k2))) else X1_byLaxity_L12 rph rgr rca rne rap rle rfu rti n k j2 (k2 + 1) (upd wgi (nI k2).toNatClampNeg (X1_room rph rfu wgi n (nI k2)))) else X1_byLaxity_L12 rph rgr rca rne rap rle rfu rti n k j2 (k2 + 1) wgi))
def X1_byLaxity_L2 (rph : AR) (rgr : AR) (rca : AR) (rne : AR) (rap : AR) (rle : AR) (rfu : AR) (rti : Int32) (n : Nat) : Nat → Nat → AR → AR
  | 0, k, vgi => vgi
  | j + 1, k, vgi => X1_byLaxity_L2 rph rgr rca rne rap rle rfu rti n  j (k + 1) ((X1_byLaxity_L12 rph rgr rca rne rap rle rfu rti n k n 0 vgi))
def X1_byLaxity (rph : AR) (rgr : AR) (rca : AR) (rne : AR) (rap : AR) (rle : AR) (rfu : AR) (rti : Int32) (rgi : AR) (n : Nat) : AR := ((X1_byLaxity_L2 rph rgr rca rne rap rle rfu rti n  n 0 rgi))
def X1_fairly_L10 (rph : AR) (rgr : AR) (rca : AR) (rne : AR) (rap : AR) (rle : AR) (rfu : AR) (rti : Int32) (n : Nat) : Nat → Nat → Int32 → AR → AR → Int32 × AR × AR
  | 0, k2, ms, wgi, wpa => (ms, wgi, wpa)
  | j2 + 1, k2, ms, wgi, wpa => (if (X1_reaches rph rgr rca rne rap rle rti (nI k2)) ≤ (wgi (nI k2).toNatClampNeg) then X1_fairly_L10 rph rgr rca rne rap rle rfu rti n  j2 (k2 + 1) ms wgi wpa else (if (wpa (nI k2).toNatClampNeg) = 0 then (if 1 ≤ (X1_room rph rfu wgi n (nI k2)) then (if ((upd wpa (nI k2).toNatClampNeg (vp_nar .boolean 0)) (nI k2).toNatClampNeg) = 0 then X1_fairly_L10 rph rgr rca rne rap rle rfu rti n  j2 (k2 + 1) (ms ||| 1) (upd wgi (nI k2).toNatClampNeg ((wgi (nI k2).toNatClampNeg) + 1)) (upd wpa (nI k2).toNatClampNeg (vp_nar .boolean 0)) else X1_fairly_L10 rph rgr rca rne rap rle rfu rti n  j2 (k2 + 1) (ms ||| 0) (upd wgi (nI k2).toNatClampNeg ((wgi (nI k2).toNatClampNeg) + 0)) (upd wpa (nI k2).toNatClampNeg (vp_nar .boolean 0))) else (if ((upd wpa (nI k2).toNatClampNeg (vp_nar .boolean 1)) (nI k2).toNatClampNeg) = 0 then X1_fairly_L10 rph rgr rca rne rap rle rfu rti n  j2 (k2 + 1) (ms ||| 1) (upd wgi (nI k2).toNatClampNeg ((wgi (nI k2).toNatClampNeg) + 1)) (upd wpa (nI k2).toNatClampNeg (vp_nar .boolean 1)) else X1_fairly_L10 rph rgr rca rne rap rle rfu rti n  j2 (k2 + 1) (ms ||| 0) (upd wgi (nI k2).toNatClampNeg ((wgi (nI k2).toNatClampNeg) + 0)) (upd wpa (nI k2).toNatClampNeg (vp_nar .boolean 1)))) else X1_fairly_L10 rph rgr rca rne rap rle rfu rti n  j2 (k2 + 1) ms wgi wpa))
def X1_fairly_L2_T (rph : AR) (rgr : AR) (rca : AR) (rne : AR) (rap : AR) (rle : AR) (rfu : AR) (rti : Int32) (n : Nat) : Nat → Int32 → AR → AR → Prop
  | 0, _, _, _ => False
  | j + 1, mr, vgi, vpa => (if mr = 0 then True else X1_fairly_L2_T rph rgr rca rne rap rle rfu rti n  j ((X1_fairly_L10 rph rgr rca rne rap rle rfu rti n  n 0 0 vgi vpa).1) ((X1_fairly_L10 rph rgr rca rne rap rle rfu rti n  n 0 0 vgi vpa).2.1) ((X1_fairly_L10 rph rgr rca rne rap rle rfu rti n  n 0 0 vgi vpa).2.2))
def X1_fairly_L2 (rph : AR) (rgr : AR) (rca : AR) (rne : AR) (rap : AR) (rle : AR) (rfu : AR) (rti : Int32) (n : Nat) : Nat → Int32 → AR → AR → Int32 × AR × AR
  | 0, mr, vgi, vpa => (mr, vgi, vpa)
  | j + 1, mr, vgi, vpa => (if mr = 0 then (mr, vgi, vpa) else X1_fairly_L2 rph rgr rca rne rap rle rfu rti n  j ((X1_fairly_L10 rph rgr rca rne rap rle rfu rti n  n 0 0 vgi vpa).1) ((X1_fairly_L10 rph rgr rca rne rap rle rfu rti n  n 0 0 vgi vpa).2.1) ((X1_fairly_L10 rph rgr rca rne rap rle rfu rti n  n 0 0 vgi vpa).2.2))
def X1_fairly (rph : AR) (rgr : AR) (rca : AR) (rne : AR) (rap : AR) (rle : AR) (rfu : AR) (rti : Int32) (rgi : AR) (rpa : AR) (n : Nat) : AR × AR := (((X1_fairly_L2 rph rgr rca rne rap rle rfu rti n  300 1 rgi rpa).2.1), ((X1_fairly_L2 rph rgr rca rne rap rle rfu rti n  300 1 rgi rpa).2.2))
def X1_high_L4 (rph : AR) (rgi : AR) (n : Nat) : Nat → Nat → Int32 → Int32
  | 0, k, g => g
  | j + 1, k, g => (if (X1_flows rph rgi n (nI k)) ≤ (X1_flows rph rgi n g) then X1_high_L4 rph rgi n  j (k + 1) g else X1_high_L4 rph rgi n  j (k + 1) (nI k))
def X1_high (rph : AR) (rgi : AR) (n : Nat) : Int32 := ((X1_high_L4 rph rgi n  2 1 0))
def X1_apart_L8 (rph : AR) (rgi : AR) (n : Nat) : Nat → Nat → Int32 → Int32
  | 0, k, le => le
  | j + 1, k, le => (if le ≤ (X1_flows rph rgi n (nI k)) then X1_apart_L8 rph rgi n  j (k + 1) le else X1_apart_L8 rph rgi n  j (k + 1) (X1_flows rph rgi n (nI k)))
def X1_apart (rph : AR) (rgi : AR) (n : Nat) : Int32 := ((X1_flows rph rgi n (X1_high rph rgi n)) - ((X1_apart_L8 rph rgi n  2 1 (X1_flows rph rgi n 0))))
def X1_giver_L7 (rph : AR) (rgi : AR) (n : Nat) (f : Int32) : Nat → Nat → Int32 → Int32 → Int32 × Int32
  | 0, k, fo, mo => (fo, mo)
  | j + 1, k, fo, mo => (if (rph (nI k).toNatClampNeg) = f then (if (rgi (nI k).toNatClampNeg) < mo then X1_giver_L7 rph rgi n f  j (k + 1) fo mo else X1_giver_L7 rph rgi n f  j (k + 1) (nI k) (rgi (nI k).toNatClampNeg)) else X1_giver_L7 rph rgi n f  j (k + 1) fo mo)
def X1_giver (rph : AR) (rgi : AR) (n : Nat) (f : Int32) : Int32 := ((X1_giver_L7 rph rgi n f  n 0 (-1) 1).1)
theorem X1_giver_inL (rph : AR) (rgi : AR) (n : Nat) (f : Int32) (hn : n ≤ 8) : ∀ (j k : Nat) (fo mo : Int32), k + j = n → (fo = -1 ∨ vp_in fo 8) → ((X1_giver_L7 rph rgi n f j k fo mo).1 = -1 ∨ vp_in (X1_giver_L7 rph rgi n f j k fo mo).1 8) := by
  intro j
  induction j with
  | zero => intro k fo mo hk h; rw [X1_giver_L7]; exact h
  | succ j ih =>
    intro k fo mo hk h
    rw [X1_giver_L7]
    split
    · split
      · exact ih _ _ _ (by omega) h
      · exact ih _ _ _ (by omega) (Or.inr (vp_in_nI (by omega) (by decide)))
    · exact ih _ _ _ (by omega) h
theorem X1_giver_in (rph : AR) (rgi : AR) (n : Nat) (f : Int32) (hn : n ≤ 8) (h : ¬ X1_giver rph rgi n f < 0) : vp_in (X1_giver rph rgi n f) 8 := by
  have h1 : X1_giver rph rgi n f = -1 ∨ vp_in (X1_giver rph rgi n f) 8 := by
    rw [X1_giver]
    exact X1_giver_inL rph rgi n f hn n 0 (-1) 1 (by omega) (Or.inl rfl)
  rcases h1 with e | e
  · rw [e] at h; exact absurd (by decide) h
  · exact e
def X1_shares_L46_T (rph : AR) (rba : Int32) (n : Nat) : Nat → AR → Prop
  | 0, _ => False
  | j + 1, vgi => (if (X1_apart rph vgi n) ≤ rba then True else (if (X1_giver rph vgi n (X1_high rph vgi n)) < 0 then True else X1_shares_L46_T rph rba n  j (upd vgi (X1_giver rph vgi n (X1_high rph vgi n)).toNatClampNeg ((vgi (X1_giver rph vgi n (X1_high rph vgi n)).toNatClampNeg) - 1))))
def X1_shares_L46 (rph : AR) (rba : Int32) (n : Nat) : Nat → AR → AR
  | 0, vgi => vgi
  | j + 1, vgi => (if (X1_apart rph vgi n) ≤ rba then vgi else (if (X1_giver rph vgi n (X1_high rph vgi n)) < 0 then vgi else X1_shares_L46 rph rba n  j (upd vgi (X1_giver rph vgi n (X1_high rph vgi n)).toNatClampNeg ((vgi (X1_giver rph vgi n (X1_high rph vgi n)).toNatClampNeg) - 1))))
def X1_shares_L2  (n : Nat) : Nat → Nat → AR → AR → AR × AR
  | 0, k, vgi, vpa => (vgi, vpa)
  | j + 1, k, vgi, vpa => X1_shares_L2 n  j (k + 1) (upd vgi (nI k).toNatClampNeg 0) (upd vpa (nI k).toNatClampNeg (vp_nar .boolean 0))
def X1_shares (rph : AR) (rgr : AR) (rca : AR) (rne : AR) (rap : AR) (rle : AR) (rfu : AR) (rba : Int32) (rru : Int32) (rti : Int32) (rgi : AR) (rpa : AR) (n : Nat) : AR × AR := (if rru = 0 then (((X1_shares_L46 rph rba n  300 ((X1_byLaxity rph rgr rca rne rap rle rfu rti ((X1_shares_L2 n  8 0 rgi rpa).1) n)))), ((X1_shares_L2 n  8 0 rgi rpa).2)) else (((X1_shares_L46 rph rba n  300 ((X1_fairly rph rgr rca rne rap rle rfu rti ((X1_shares_L2 n  8 0 rgi rpa).1) ((X1_shares_L2 n  8 0 rgi rpa).2) n).1))), ((X1_fairly rph rgr rca rne rap rle rfu rti ((X1_shares_L2 n  8 0 rgi rpa).1) ((X1_shares_L2 n  8 0 rgi rpa).2) n).2)))
def X1_point (rpt : Int32) (rph : AR) (rgr : AR) (n : Nat) (f : Int32) (g : Int32) : Int32 × Int32 × AR × AR × Int32 := (if (X1_isIn f 0 3) = 0 then (0, rpt, rph, rgr, 1) else (if (X1_isIn g 6 32) = 0 then (0, rpt, rph, rgr, 1) else (if rpt = 8 then (0, rpt, rph, rgr, 2) else (((rpt + 1) - 1), (rpt + 1), (upd rph rpt.toNatClampNeg f), (upd rgr rpt.toNatClampNeg g), 0))))
def X1_fuse (rfu : AR) (f : Int32) (x : Int32) : Int32 × AR × Int32 := (if (X1_isIn f 0 2) = 0 then (0, rfu, 1) else (if (X1_isIn x 0 100) = 0 then (0, rfu, 1) else ((rfu f.toNatClampNeg), (upd rfu f.toNatClampNeg x), 0)))
def X1_balance (rba : Int32) (x : Int32) : Int32 × Int32 × Int32 := (if (X1_isIn x 0 100) = 0 then (0, rba, 1) else (rba, x, 0))
def X1_rule (rru : Int32) (x : Int32) : Int32 × Int32 × Int32 := (if (X1_isIn x 0 1) = 0 then (0, rru, 1) else (rru, x, 0))
def X1_plugIn (rpt : Int32) (rph : AR) (rgr : AR) (rca : AR) (rne : AR) (rap : AR) (rle : AR) (rti : Int32) (n : Nat) (i : Int32) (nd : Int32) (ap_ : Int32) (sp : Int32) : Int32 × AR × AR × AR × AR × Int32 := (if (X1_isPoint rpt i).1 = 0 then (0, rca, rne, rap, rle, ((X1_isPoint rpt i).2)) else (if (X1_isIn nd 1 5000) = 0 then (0, rca, rne, rap, rle, 2) else (if (X1_isIn ap_ 1 32) = 0 then (0, rca, rne, rap, rle, 2) else (if (X1_isIn sp 1 500) = 0 then (0, rca, rne, rap, rle, 2) else (if (rca i.toNatClampNeg) = 0 then ((X1_lax rph rgr (upd rne i.toNatClampNeg nd) (upd rap i.toNatClampNeg ap_) (upd rle i.toNatClampNeg (rti + sp)) rti i), (upd rca i.toNatClampNeg (vp_nar .boolean 1)), (upd rne i.toNatClampNeg nd), (upd rap i.toNatClampNeg ap_), (upd rle i.toNatClampNeg (rti + sp)), 0) else (0, rca, rne, rap, rle, 3))))))
def X1_takeOut (rpt : Int32) (rca : AR) (rne : AR) (rsv : Int32) (n : Nat) (i : Int32) : Int32 × AR × Int32 × Int32 := (if (X1_isPoint rpt i).1 = 0 then (0, rca, rsv, ((X1_isPoint rpt i).2)) else (if (rca i.toNatClampNeg) = 0 then (0, rca, rsv, 2) else (if (rne i.toNatClampNeg) = 0 then ((rne i.toNatClampNeg), (upd rca i.toNatClampNeg (vp_nar .boolean 0)), (rsv + 1), 0) else ((rne i.toNatClampNeg), (upd rca i.toNatClampNeg (vp_nar .boolean 0)), (rsv + 0), 0))))
def X1_appetite (rpt : Int32) (rca : AR) (rap : AR) (n : Nat) (i : Int32) (x : Int32) : Int32 × AR × Int32 := (if (X1_isPoint rpt i).1 = 0 then (0, rap, ((X1_isPoint rpt i).2)) else (if (X1_isIn x 1 32) = 0 then (0, rap, 2) else (if (rca i.toNatClampNeg) = 0 then (0, rap, 3) else ((rap i.toNatClampNeg), (upd rap i.toNatClampNeg x), 0))))
def X1_stay (rpt : Int32) (rca : AR) (rle : AR) (rti : Int32) (n : Nat) (i : Int32) (x : Int32) : Int32 × AR × Int32 := (if (X1_isPoint rpt i).1 = 0 then (0, rle, ((X1_isPoint rpt i).2)) else (if (X1_isIn x 1 500) = 0 then (0, rle, 2) else (if (rca i.toNatClampNeg) = 0 then (0, rle, 3) else ((X1_stepsLeft (upd rle i.toNatClampNeg ((rti + (X1_stepsLeft rle rti i)) + x)) rti i), (upd rle i.toNatClampNeg ((rti + (X1_stepsLeft rle rti i)) + x)), 0))))
def X1_time (rti : Int32)  : Int32 × Int32 := (rti, 0)
def X1_points (rpt : Int32)  : Int32 × Int32 := (rpt, 0)
def X1_taken (rtk : Int32)  : Int32 × Int32 := (rtk, 0)
def X1_served (rsv : Int32)  : Int32 × Int32 := (rsv, 0)
def X1_need (rpt : Int32) (rca : AR) (rne : AR) (n : Nat) (i : Int32) : Int32 × Int32 := (if (X1_isPoint rpt i).1 = 0 then (0, ((X1_isPoint rpt i).2)) else (if (rca i.toNatClampNeg) = 0 then ((-1), ((X1_isPoint rpt i).2)) else ((rne i.toNatClampNeg), ((X1_isPoint rpt i).2))))
def X1_left (rpt : Int32) (rca : AR) (rle : AR) (rti : Int32) (n : Nat) (i : Int32) : Int32 × Int32 := (if (X1_isPoint rpt i).1 = 0 then (0, ((X1_isPoint rpt i).2)) else (if (rca i.toNatClampNeg) = 0 then ((-1), ((X1_isPoint rpt i).2)) else ((X1_stepsLeft rle rti i), ((X1_isPoint rpt i).2))))
def X1_laxity (rpt : Int32) (rph : AR) (rgr : AR) (rca : AR) (rne : AR) (rap : AR) (rle : AR) (rti : Int32) (n : Nat) (i : Int32) : Int32 × Int32 := (if (X1_isPoint rpt i).1 = 0 then (0, ((X1_isPoint rpt i).2)) else (if (rca i.toNatClampNeg) = 0 then (0, 2) else ((X1_lax rph rgr rne rap rle rti i), 0)))
def X1_reach (rpt : Int32) (rph : AR) (rgr : AR) (rca : AR) (rne : AR) (rap : AR) (rle : AR) (rti : Int32) (n : Nat) (i : Int32) : Int32 × Int32 := (if (X1_isPoint rpt i).1 = 0 then (0, ((X1_isPoint rpt i).2)) else ((X1_reaches rph rgr rca rne rap rle rti i), ((X1_isPoint rpt i).2)))
def X1_current (rpt : Int32) (rph : AR) (rgr : AR) (rca : AR) (rne : AR) (rap : AR) (rle : AR) (rfu : AR) (rba : Int32) (rru : Int32) (rti : Int32) (rgi : AR) (rpa : AR) (n : Nat) (i : Int32) : Int32 × AR × AR × Int32 := (if (X1_isPoint rpt i).1 = 0 then (0, rgi, rpa, ((X1_isPoint rpt i).2)) else ((((X1_shares rph rgr rca rne rap rle rfu rba rru rti rgi rpa n).1) i.toNatClampNeg), ((X1_shares rph rgr rca rne rap rle rfu rba rru rti rgi rpa n).1), ((X1_shares rph rgr rca rne rap rle rfu rba rru rti rgi rpa n).2), ((X1_isPoint rpt i).2)))
def X1_load (rph : AR) (rgr : AR) (rca : AR) (rne : AR) (rap : AR) (rle : AR) (rfu : AR) (rba : Int32) (rru : Int32) (rti : Int32) (rgi : AR) (rpa : AR) (n : Nat) (f : Int32) : Int32 × AR × AR × Int32 := (if (X1_isIn f 0 2) = 0 then (0, rgi, rpa, 1) else ((X1_flows rph ((X1_shares rph rgr rca rne rap rle rfu rba rru rti rgi rpa n).1) n f), ((X1_shares rph rgr rca rne rap rle rfu rba rru rti rgi rpa n).1), ((X1_shares rph rgr rca rne rap rle rfu rba rru rti rgi rpa n).2), 0))
def X1_imbalance (rph : AR) (rgr : AR) (rca : AR) (rne : AR) (rap : AR) (rle : AR) (rfu : AR) (rba : Int32) (rru : Int32) (rti : Int32) (rgi : AR) (rpa : AR) (n : Nat) : Int32 × AR × AR × Int32 := ((X1_apart rph ((X1_shares rph rgr rca rne rap rle rfu rba rru rti rgi rpa n).1) n), ((X1_shares rph rgr rca rne rap rle rfu rba rru rti rgi rpa n).1), ((X1_shares rph rgr rca rne rap rle rfu rba rru rti rgi rpa n).2), 0)
def X1_held_L13 (rph : AR) (rgr : AR) (rca : AR) (rne : AR) (rap : AR) (rle : AR) (rfu : AR) (rba : Int32) (rru : Int32) (rti : Int32) (rgi : AR) (rpa : AR) (n : Nat) : Nat → Nat → Int32 → Int32
  | 0, k, se => se
  | j + 1, k, se => (if (X1_reaches rph rgr rca rne rap rle rti (nI k)) ≤ (((X1_shares rph rgr rca rne rap rle rfu rba rru rti rgi rpa n).1) (nI k).toNatClampNeg) then X1_held_L13 rph rgr rca rne rap rle rfu rba rru rti rgi rpa n  j (k + 1) (se ||| 0) else X1_held_L13 rph rgr rca rne rap rle rfu rba rru rti rgi rpa n  j (k + 1) (se ||| (1 <<< ((nI k) &&& 31))))
def X1_held (rph : AR) (rgr : AR) (rca : AR) (rne : AR) (rap : AR) (rle : AR) (rfu : AR) (rba : Int32) (rru : Int32) (rti : Int32) (rgi : AR) (rpa : AR) (n : Nat) : Int32 × AR × AR × Int32 := (((X1_held_L13 rph rgr rca rne rap rle rfu rba rru rti rgi rpa n  n 0 0)), ((X1_shares rph rgr rca rne rap rle rfu rba rru rti rgi rpa n).1), ((X1_shares rph rgr rca rne rap rle rfu rba rru rti rgi rpa n).2), 0)
def X1_canBeReady_L9 (rph : AR) (rgr : AR) (rca : AR) (rne : AR) (rap : AR) (rle : AR) (rti : Int32) (n : Nat) : Nat → Nat → Int32 → Int32
  | 0, k, is_ => is_
  | j + 1, k, is_ => (if (rca (nI k).toNatClampNeg) = 0 then X1_canBeReady_L9 rph rgr rca rne rap rle rti n  j (k + 1) (is_ &&& 1) else (if (rne (nI k).toNatClampNeg) = 0 then X1_canBeReady_L9 rph rgr rca rne rap rle rti n  j (k + 1) (is_ &&& 1) else (if (X1_lax rph rgr rne rap rle rti (nI k)) < 0 then X1_canBeReady_L9 rph rgr rca rne rap rle rti n  j (k + 1) (is_ &&& 0) else X1_canBeReady_L9 rph rgr rca rne rap rle rti n  j (k + 1) (is_ &&& 1))))
def X1_canBeReady (rph : AR) (rgr : AR) (rca : AR) (rne : AR) (rap : AR) (rle : AR) (rti : Int32) (n : Nat) : Int32 × Int32 := (((X1_canBeReady_L9 rph rgr rca rne rap rle rti n  n 0 1)), 0)
theorem X1_canBeReady_z (rph : AR) (rgr : AR) (rca : AR) (rne : AR) (rap : AR) (rle : AR) (rti : Int32) (n : Nat) : ∀ (j k : Nat) (is_ : Int32), (is_ = 0 ∨ is_ = 1) → (X1_canBeReady_L9 rph rgr rca rne rap rle rti n j k is_ = 0 ∨ X1_canBeReady_L9 rph rgr rca rne rap rle rti n j k is_ = 1) := by
  intro j
  induction j with
  | zero => intro k is_ h; rw [X1_canBeReady_L9]; exact h
  | succ j ih =>
    intro k is_ h
    have h1 : is_ &&& 1 = 0 ∨ is_ &&& 1 = 1 := by rcases h with e | e <;> rw [e] <;> decide
    have h0 : is_ &&& 0 = 0 ∨ is_ &&& 0 = 1 := by rcases h with e | e <;> rw [e] <;> decide
    rw [X1_canBeReady_L9]
    repeat' split
    all_goals first | exact ih _ _ h1 | exact ih _ _ h0
def X1_step_L42 (rph : AR) (rgr : AR) (rca : AR) (rap : AR) (rle : AR) (rfu : AR) (rba : Int32) (rru : Int32) (n : Nat) (i : Int32) (vne : AR) (vti : Int32) (vgi : AR) (vpa : AR) : Nat → Nat → Int32 → AR → Int32 × AR
  | 0, k2, bl, wne => (bl, wne)
  | j2 + 1, k2, bl, wne => (if (wne (nI k2).toNatClampNeg) ≤ ((((X1_shares rph rgr rca vne rap rle rfu rba rru vti vgi vpa n).1) (nI k2).toNatClampNeg) * (X1_times rph (nI k2))) then X1_step_L42 rph rgr rca rap rle rfu rba rru n i vne vti vgi vpa j2 (k2 + 1) (bl + (wne (nI k2).toNatClampNeg)) (upd wne (nI k2).toNatClampNeg ((wne (nI k2).toNatClampNeg) - (wne (nI k2).toNatClampNeg))) else X1_step_L42 rph rgr rca rap rle rfu rba rru n i vne vti vgi vpa j2 (k2 + 1) (bl + ((((X1_shares rph rgr rca vne rap rle rfu rba rru vti vgi vpa n).1) (nI k2).toNatClampNeg) * (X1_times rph (nI k2)))) (upd wne (nI k2).toNatClampNeg ((wne (nI k2).toNatClampNeg) - ((((X1_shares rph rgr rca vne rap rle rfu rba rru vti vgi vpa n).1) (nI k2).toNatClampNeg) * (X1_times rph (nI k2))))))
def X1_step_L23 (rph : AR) (rgr : AR) (rca : AR) (rap : AR) (rle : AR) (rfu : AR) (rba : Int32) (rru : Int32) (n : Nat) (i : Int32) : Nat → Nat → Int32 → AR → Int32 → AR → AR → Int32 × AR × Int32 × AR × AR
  | 0, k, al, vne, vti, vgi, vpa => (al, vne, vti, vgi, vpa)
  | j + 1, k, al, vne, vti, vgi, vpa => X1_step_L23 rph rgr rca rap rle rfu rba rru n i  j (k + 1) ((X1_step_L42 rph rgr rca rap rle rfu rba rru n i vne vti vgi vpa n 0 al vne).1) ((X1_step_L42 rph rgr rca rap rle rfu rba rru n i vne vti vgi vpa n 0 al vne).2) (vti + 1) ((X1_shares rph rgr rca vne rap rle rfu rba rru vti vgi vpa n).1) ((X1_shares rph rgr rca vne rap rle rfu rba rru vti vgi vpa n).2)
def X1_step (rph : AR) (rgr : AR) (rca : AR) (rne : AR) (rap : AR) (rle : AR) (rfu : AR) (rba : Int32) (rru : Int32) (rti : Int32) (rtk : Int32) (rgi : AR) (rpa : AR) (n : Nat) (i : Int32) : Int32 × AR × Int32 × Int32 × AR × AR × Int32 := (if (X1_isIn i 1 50) = 0 then (if i ≤ 0 then (0, rne, rti, (rtk + 0), rgi, rpa, 1) else (0, rne, rti, (rtk + 0), rgi, rpa, 1)) else (((X1_step_L23 rph rgr rca rap rle rfu rba rru n i  i.toNatClampNeg 0 0 rne rti rgi rpa).1), ((X1_step_L23 rph rgr rca rap rle rfu rba rru n i  i.toNatClampNeg 0 0 rne rti rgi rpa).2.1), ((X1_step_L23 rph rgr rca rap rle rfu rba rru n i  i.toNatClampNeg 0 0 rne rti rgi rpa).2.2.1), (rtk + ((X1_step_L23 rph rgr rca rap rle rfu rba rru n i  i.toNatClampNeg 0 0 rne rti rgi rpa).1)), ((X1_step_L23 rph rgr rca rap rle rfu rba rru n i  i.toNatClampNeg 0 0 rne rti rgi rpa).2.2.2.1), ((X1_step_L23 rph rgr rca rap rle rfu rba rru n i  i.toNatClampNeg 0 0 rne rti rgi rpa).2.2.2.2), 0))
def X1_fairLevel_L160 (rph : AR) (rgr : AR) (rca : AR) (rne : AR) (rap : AR) (rle : AR) (rti : Int32) (n : Nat) (f : Int32) (k : Nat) : Nat → Nat → Int32 → Int32 → Int32 × Int32
  | 0, k2, lh, mh => (lh, mh)
  | j2 + 1, k2, lh, mh => (if (rph (nI k2).toNatClampNeg) = f then (if (X1_reaches rph rgr rca rne rap rle rti (nI k2)) = (nI k) then (if lh < ((nI k) * mh) then X1_fairLevel_L160 rph rgr rca rne rap rle rti n f k j2 (k2 + 1) lh mh else X1_fairLevel_L160 rph rgr rca rne rap rle rti n f k j2 (k2 + 1) (lh - (nI k)) (mh + (-1))) else X1_fairLevel_L160 rph rgr rca rne rap rle rti n f k j2 (k2 + 1) lh mh) else X1_fairLevel_L160 rph rgr rca rne rap rle rti n f k j2 (k2 + 1) lh mh)
def X1_fairLevel_L150 (rph : AR) (rgr : AR) (rca : AR) (rne : AR) (rap : AR) (rle : AR) (rti : Int32) (n : Nat) (f : Int32) : Nat → Nat → Int32 → Int32 → Int32 × Int32
  | 0, k, lg, mg => (lg, mg)
  | j + 1, k, lg, mg => X1_fairLevel_L150 rph rgr rca rne rap rle rti n f  j (k + 1) ((X1_fairLevel_L160 rph rgr rca rne rap rle rti n f k n 0 lg mg).1) ((X1_fairLevel_L160 rph rgr rca rne rap rle rti n f k n 0 lg mg).2)
def X1_fairLevel_L46 (rph : AR) (rgr : AR) (rca : AR) (rne : AR) (rap : AR) (rle : AR) (rfu : AR) (rba : Int32) (rru : Int32) (rti : Int32) (rgi : AR) (rpa : AR) (n : Nat) (f : Int32) : Nat → Nat → Int32 → Int32 → Int32 → Int32 × Int32 × Int32
  | 0, k, lf, wn, mn => (lf, wn, mn)
  | j + 1, k, lf, wn, mn => (if (rph (nI k).toNatClampNeg) = 3 then (if (rph (nI k).toNatClampNeg) = f then (if (X1_reaches rph rgr rca rne rap rle rti (nI k)) ≤ 0 then X1_fairLevel_L46 rph rgr rca rne rap rle rfu rba rru rti rgi rpa n f  j (k + 1) (lf - (((X1_shares rph rgr rca rne rap rle rfu rba rru rti rgi rpa n).1) (nI k).toNatClampNeg)) (wn + (X1_reaches rph rgr rca rne rap rle rti (nI k))) (mn + 0) else X1_fairLevel_L46 rph rgr rca rne rap rle rfu rba rru rti rgi rpa n f  j (k + 1) (lf - (((X1_shares rph rgr rca rne rap rle rfu rba rru rti rgi rpa n).1) (nI k).toNatClampNeg)) (wn + (X1_reaches rph rgr rca rne rap rle rti (nI k))) (mn + 1)) else X1_fairLevel_L46 rph rgr rca rne rap rle rfu rba rru rti rgi rpa n f  j (k + 1) (lf - (((X1_shares rph rgr rca rne rap rle rfu rba rru rti rgi rpa n).1) (nI k).toNatClampNeg)) (wn + 0) (mn + 0)) else (if (rph (nI k).toNatClampNeg) = f then (if (X1_reaches rph rgr rca rne rap rle rti (nI k)) ≤ 0 then X1_fairLevel_L46 rph rgr rca rne rap rle rfu rba rru rti rgi rpa n f  j (k + 1) (lf - 0) (wn + (X1_reaches rph rgr rca rne rap rle rti (nI k))) (mn + 0) else X1_fairLevel_L46 rph rgr rca rne rap rle rfu rba rru rti rgi rpa n f  j (k + 1) (lf - 0) (wn + (X1_reaches rph rgr rca rne rap rle rti (nI k))) (mn + 1)) else X1_fairLevel_L46 rph rgr rca rne rap rle rfu rba rru rti rgi rpa n f  j (k + 1) (lf - 0) (wn + 0) (mn + 0)))
def X1_fairLevel (rph : AR) (rgr : AR) (rca : AR) (rne : AR) (rap : AR) (rle : AR) (rfu : AR) (rba : Int32) (rru : Int32) (rti : Int32) (rgi : AR) (rpa : AR) (n : Nat) (f : Int32) : Int32 × AR × AR × Int32 := (if (X1_isIn f 0 2) = 0 then (0, rgi, rpa, 1) else (if ((X1_fairLevel_L46 rph rgr rca rne rap rle rfu rba rru rti rgi rpa n f  n 0 (rfu f.toNatClampNeg) 0 0).1) < ((X1_fairLevel_L46 rph rgr rca rne rap rle rfu rba rru rti rgi rpa n f  n 0 (rfu f.toNatClampNeg) 0 0).2.1) then (((1000 * ((X1_fairLevel_L150 rph rgr rca rne rap rle rti n f  32 1 ((X1_fairLevel_L46 rph rgr rca rne rap rle rfu rba rru rti rgi rpa n f  n 0 (rfu f.toNatClampNeg) 0 0).1) ((X1_fairLevel_L46 rph rgr rca rne rap rle rfu rba rru rti rgi rpa n f  n 0 (rfu f.toNatClampNeg) 0 0).2.2)).1)) / ((X1_fairLevel_L150 rph rgr rca rne rap rle rti n f  32 1 ((X1_fairLevel_L46 rph rgr rca rne rap rle rfu rba rru rti rgi rpa n f  n 0 (rfu f.toNatClampNeg) 0 0).1) ((X1_fairLevel_L46 rph rgr rca rne rap rle rfu rba rru rti rgi rpa n f  n 0 (rfu f.toNatClampNeg) 0 0).2.2)).2)), ((X1_shares rph rgr rca rne rap rle rfu rba rru rti rgi rpa n).1), ((X1_shares rph rgr rca rne rap rle rfu rba rru rti rgi rpa n).2), 0) else ((-1), ((X1_shares rph rgr rca rne rap rle rfu rba rru rti rgi rpa n).1), ((X1_shares rph rgr rca rne rap rle rfu rba rru rti rgi rpa n).2), 0)))
