theorem uc_e0 : (X0_point_T 0 0 3 6) = 0 := by decide +kernel
theorem uc_e1 : ((X0_point uZ uZ uZ 0 0 3 6).1) = 0 := by decide +kernel
def uc_a0 : AR := upd uZ (0 : Int32).toNatClampNeg 3
theorem uc_e2 : ((X0_point uZ uZ uZ 0 0 3 6).2.1) = uc_a0 := by rw [X0_point_eq uc_e0]; try rfl
def uc_a1 : AR := upd uZ (0 : Int32).toNatClampNeg 6
theorem uc_e3 : ((X0_point uZ uZ uZ 0 0 3 6).2.2.1) = uc_a1 := by rw [X0_point_eq uc_e0]; try rfl
def uc_a2 : AR := upd uZ (0 : Int32).toNatClampNeg (-1)
theorem uc_e4 : ((X0_point uZ uZ uZ 0 0 3 6).2.2.2.1) = uc_a2 := by rw [X0_point_eq uc_e0]; try rfl
theorem uc_e5 : ((X0_point uZ uZ uZ 0 0 3 6).2.2.2.2) = 1 := by decide +kernel
theorem uc_e6 : (X0_point_T 1 1 2 6) = 0 := by decide +kernel
theorem uc_e7 : ((X0_point uc_a0 uc_a1 uc_a2 1 1 2 6).1) = 1 := by decide +kernel
def uc_a3 : AR := upd uc_a0 (1 : Int32).toNatClampNeg 2
theorem uc_e8 : ((X0_point uc_a0 uc_a1 uc_a2 1 1 2 6).2.1) = uc_a3 := by rw [X0_point_eq uc_e6]; try rfl
def uc_a4 : AR := upd uc_a1 (1 : Int32).toNatClampNeg 6
theorem uc_e9 : ((X0_point uc_a0 uc_a1 uc_a2 1 1 2 6).2.2.1) = uc_a4 := by rw [X0_point_eq uc_e6]; try rfl
def uc_a5 : AR := upd uc_a2 (1 : Int32).toNatClampNeg (-1)
theorem uc_e10 : ((X0_point uc_a0 uc_a1 uc_a2 1 1 2 6).2.2.2.1) = uc_a5 := by rw [X0_point_eq uc_e6]; try rfl
theorem uc_e11 : ((X0_point uc_a0 uc_a1 uc_a2 1 1 2 6).2.2.2.2) = 2 := by decide +kernel
theorem uc_e12 : (X0_plugIn_T uc_a5 2 2 0 20 5 2) = 0 := by decide +kernel
theorem uc_e13 : ((X0_plugIn uc_a3 uc_a4 uc_a5 uZ uZ 2 0 2 0 20 5 2).1) = 0 := by decide +kernel
def uc_a6 : AR := upd uc_a5 (0 : Int32).toNatClampNeg 20
theorem uc_e14 : ((X0_plugIn uc_a3 uc_a4 uc_a5 uZ uZ 2 0 2 0 20 5 2).2.1) = uc_a6 := by rw [X0_plugIn_eq uc_e12]; try rfl
def uc_a7 : AR := upd uZ (0 : Int32).toNatClampNeg 5
theorem uc_e15 : ((X0_plugIn uc_a3 uc_a4 uc_a5 uZ uZ 2 0 2 0 20 5 2).2.2.1) = uc_a7 := by rw [X0_plugIn_eq uc_e12]; try rfl
def uc_a8 : AR := upd uZ (0 : Int32).toNatClampNeg (0 + 2)
theorem uc_e16 : ((X0_plugIn uc_a3 uc_a4 uc_a5 uZ uZ 2 0 2 0 20 5 2).2.2.2) = uc_a8 := by rw [X0_plugIn_eq uc_e12]; try rfl
theorem uc_e17 : (X0_reach_T 2 2 0) = 0 := by decide +kernel
theorem uc_e18 : (X0_reach uc_a3 uc_a4 uc_a6 uc_a7 uc_a8 2 0 2 0) = 5 := by decide +kernel
theorem uc_e19 : (X0_plugIn_T uc_a6 2 2 1 3 32 1) = 0 := by decide +kernel
theorem uc_e20 : ((X0_plugIn uc_a3 uc_a4 uc_a6 uc_a7 uc_a8 2 0 2 1 3 32 1).1) = 0 := by decide +kernel
def uc_a9 : AR := upd uc_a6 (1 : Int32).toNatClampNeg 3
theorem uc_e21 : ((X0_plugIn uc_a3 uc_a4 uc_a6 uc_a7 uc_a8 2 0 2 1 3 32 1).2.1) = uc_a9 := by rw [X0_plugIn_eq uc_e19]; try rfl
def uc_a10 : AR := upd uc_a7 (1 : Int32).toNatClampNeg 32
theorem uc_e22 : ((X0_plugIn uc_a3 uc_a4 uc_a6 uc_a7 uc_a8 2 0 2 1 3 32 1).2.2.1) = uc_a10 := by rw [X0_plugIn_eq uc_e19]; try rfl
def uc_a11 : AR := upd uc_a8 (1 : Int32).toNatClampNeg (0 + 1)
theorem uc_e23 : ((X0_plugIn uc_a3 uc_a4 uc_a6 uc_a7 uc_a8 2 0 2 1 3 32 1).2.2.2) = uc_a11 := by rw [X0_plugIn_eq uc_e19]; try rfl
theorem uc_e24 : (X0_reach_T 2 2 1) = 0 := by decide +kernel
theorem uc_e25 : (X0_reach uc_a3 uc_a4 uc_a9 uc_a10 uc_a11 2 0 2 1) = 3 := by decide +kernel
theorem uc_e26 : (X0_canBeReady uc_a3 uc_a4 uc_a9 uc_a10 uc_a11 0 2) = 1 := by decide +kernel
theorem uc_e27 : (X0_step_T 2 1) = 0 := by decide +kernel
theorem uc_e28 : Iv 100 2 uc_a3 uc_a4 uc_a9 uc_a10 uc_a11 uF0 2 100 0 0 := by unfold Iv; decide +kernel
theorem uc_e29 (wa gi lo tu : AR) : (X0_step uc_a3 uc_a4 uc_a9 uc_a10 uc_a11 uF0 100 0 0 0 wa gi lo tu 2 1).1 = 18 := (ob_step (qtk := 0) (by decide) uc_e28 uc_e27 wa gi lo tu uZ uZ uZ uZ).1.trans (by decide +kernel)
def uc_a12 : AR := (upd (upd uc_a9 0 5) 1 0)
theorem uc_e30 : (X0_step uc_a3 uc_a4 uc_a9 uc_a10 uc_a11 uF0 100 0 0 0 uZ uZ uZ uZ 2 1).2.1 = uc_a12 := by
  refine funext fun q => ?_
  by_cases hq : q < 2
  · rcases (show q = 0 ∨ q = 1 by omega) with rfl | rfl
    · decide +kernel
    · decide +kernel
  · rw [step_hi (by decide) (Nat.le_of_not_lt hq)]
    unfold uc_a12
    rw [upd_ne (by omega)]
    rw [upd_ne (by omega)]
theorem uc_e31 (wa gi lo tu : AR) : (X0_step uc_a3 uc_a4 uc_a9 uc_a10 uc_a11 uF0 100 0 0 0 wa gi lo tu 2 1).2.1 = uc_a12 := (ob_step (qtk := 0) (by decide) uc_e28 uc_e27 wa gi lo tu uZ uZ uZ uZ).2.1.trans uc_e30
theorem uc_e32 (wa gi lo tu : AR) : (X0_step uc_a3 uc_a4 uc_a9 uc_a10 uc_a11 uF0 100 0 0 0 wa gi lo tu 2 1).2.2.1 = 1 := (ob_step (qtk := 0) (by decide) uc_e28 uc_e27 wa gi lo tu uZ uZ uZ uZ).2.2.1.trans (by decide +kernel)
theorem uc_e33 (wa gi lo tu : AR) : (X0_step uc_a3 uc_a4 uc_a9 uc_a10 uc_a11 uF0 100 0 0 0 wa gi lo tu 2 1).2.2.2.1 = 18 := (ob_step (qtk := 0) (by decide) uc_e28 uc_e27 wa gi lo tu uZ uZ uZ uZ).2.2.2.trans (by decide +kernel)
theorem uc_e34 : (X0_need_T 2 2 0) = 0 := by decide +kernel
theorem uc_e35 : (X0_need uc_a12 2 2 0) = 5 := by decide +kernel
theorem uc_e36 : (X0_need_T 2 2 1) = 0 := by decide +kernel
theorem uc_e37 : (X0_need uc_a12 2 2 1) = 0 := by decide +kernel
theorem uc_e38 : (X0_left_T 2 2 1) = 0 := by decide +kernel
theorem uc_e39 : (X0_left uc_a12 uc_a11 2 1 2 1) = 0 := by decide +kernel
theorem uc_e40 : (X0_reach_T 2 2 1) = 0 := by decide +kernel
theorem uc_e41 : (X0_reach uc_a3 uc_a4 uc_a12 uc_a10 uc_a11 2 1 2 1) = 0 := by decide +kernel
theorem uc_e42 : (X0_laxity_T uc_a12 2 2 1) = 0 := by decide +kernel
theorem uc_e43 : (X0_laxity uc_a3 uc_a4 uc_a12 uc_a10 uc_a11 2 1 2 1) = 0 := by decide +kernel
theorem uc_e44 : (X0_canBeReady uc_a3 uc_a4 uc_a12 uc_a10 uc_a11 1 2) = 1 := by decide +kernel
theorem uc_e45 : (X0_reach_T 2 2 0) = 0 := by decide +kernel
theorem uc_e46 : (X0_reach uc_a3 uc_a4 uc_a12 uc_a10 uc_a11 2 1 2 0) = 2 := by decide +kernel
theorem uc_e47 : (X0_load_T 2 0) = 0 := by decide +kernel
theorem uc_e48 : Iv 100 2 uc_a3 uc_a4 uc_a12 uc_a10 uc_a11 uF0 2 100 0 1 := by unfold Iv; decide +kernel
theorem uc_e49 (wa gi lo tu : AR) : ((X0_load uc_a3 uc_a4 uc_a12 uc_a10 uc_a11 uF0 100 0 1 wa gi lo tu 2 0).1) = 2 := (ob_load (by decide) uc_e48 uc_e47 wa gi lo tu uZ uZ uZ uZ).trans (by decide +kernel)
theorem uc_e50 : (X0_appetite_T uc_a12 2 2 0 1) = 0 := by decide +kernel
theorem uc_e51 : ((X0_appetite uc_a12 uc_a10 2 2 0 1).1) = 5 := by decide +kernel
def uc_a13 : AR := upd uc_a10 (0 : Int32).toNatClampNeg 1
theorem uc_e52 : ((X0_appetite uc_a12 uc_a10 2 2 0 1).2) = uc_a13 := by rw [X0_appetite_eq uc_e50]; try rfl
theorem uc_e53 : (X0_reach_T 2 2 0) = 0 := by decide +kernel
theorem uc_e54 : (X0_reach uc_a3 uc_a4 uc_a12 uc_a13 uc_a11 2 1 2 0) = 1 := by decide +kernel
theorem uc_e55 : (X0_laxity_T uc_a12 2 2 0) = 0 := by decide +kernel
theorem uc_e56 : (X0_laxity uc_a3 uc_a4 uc_a12 uc_a13 uc_a11 2 1 2 0) = (-1) := by decide +kernel
theorem uc_e57 : (X0_canBeReady uc_a3 uc_a4 uc_a12 uc_a13 uc_a11 1 2) = 0 := by decide +kernel
theorem uc_e58 : (X0_step_T 2 1) = 0 := by decide +kernel
theorem uc_e59 : Iv 100 2 uc_a3 uc_a4 uc_a12 uc_a13 uc_a11 uF0 2 100 0 1 := by unfold Iv; decide +kernel
theorem uc_e60 (wa gi lo tu : AR) : (X0_step uc_a3 uc_a4 uc_a12 uc_a13 uc_a11 uF0 100 0 1 18 wa gi lo tu 2 1).1 = 3 := (ob_step (qtk := 18) (by decide) uc_e59 uc_e58 wa gi lo tu uZ uZ uZ uZ).1.trans (by decide +kernel)
def uc_a14 : AR := (upd uc_a12 0 2)
theorem uc_e61 : (X0_step uc_a3 uc_a4 uc_a12 uc_a13 uc_a11 uF0 100 0 1 18 uZ uZ uZ uZ 2 1).2.1 = uc_a14 := by
  refine funext fun q => ?_
  by_cases hq : q < 2
  · rcases (show q = 0 ∨ q = 1 by omega) with rfl | rfl
    · decide +kernel
    · decide +kernel
  · rw [step_hi (by decide) (Nat.le_of_not_lt hq)]
    unfold uc_a14
    rw [upd_ne (by omega)]
theorem uc_e62 (wa gi lo tu : AR) : (X0_step uc_a3 uc_a4 uc_a12 uc_a13 uc_a11 uF0 100 0 1 18 wa gi lo tu 2 1).2.1 = uc_a14 := (ob_step (qtk := 18) (by decide) uc_e59 uc_e58 wa gi lo tu uZ uZ uZ uZ).2.1.trans uc_e61
theorem uc_e63 (wa gi lo tu : AR) : (X0_step uc_a3 uc_a4 uc_a12 uc_a13 uc_a11 uF0 100 0 1 18 wa gi lo tu 2 1).2.2.1 = 2 := (ob_step (qtk := 18) (by decide) uc_e59 uc_e58 wa gi lo tu uZ uZ uZ uZ).2.2.1.trans (by decide +kernel)
theorem uc_e64 (wa gi lo tu : AR) : (X0_step uc_a3 uc_a4 uc_a12 uc_a13 uc_a11 uF0 100 0 1 18 wa gi lo tu 2 1).2.2.2.1 = 21 := (ob_step (qtk := 18) (by decide) uc_e59 uc_e58 wa gi lo tu uZ uZ uZ uZ).2.2.2.trans (by decide +kernel)
theorem uc_e65 : (X0_need_T 2 2 0) = 0 := by decide +kernel
theorem uc_e66 : (X0_need uc_a14 2 2 0) = 2 := by decide +kernel
theorem uc_e67 : (X0_left_T 2 2 0) = 0 := by decide +kernel
theorem uc_e68 : (X0_left uc_a14 uc_a11 2 2 2 0) = 0 := by decide +kernel
theorem uc_e69 : (X0_laxity_T uc_a14 2 2 0) = 0 := by decide +kernel
theorem uc_e70 : (X0_laxity uc_a3 uc_a4 uc_a14 uc_a13 uc_a11 2 2 2 0) = (-1) := by decide +kernel
theorem uc_e71 : (X0_reach_T 2 2 0) = 0 := by decide +kernel
theorem uc_e72 : (X0_reach uc_a3 uc_a4 uc_a14 uc_a13 uc_a11 2 2 2 0) = 0 := by decide +kernel
theorem uc_e73 : (X0_step_T 2 5) = 0 := by decide +kernel
theorem uc_e74 : Iv 100 2 uc_a3 uc_a4 uc_a14 uc_a13 uc_a11 uF0 2 100 0 2 := by unfold Iv; decide +kernel
theorem uc_e75 (wa gi lo tu : AR) : (X0_step uc_a3 uc_a4 uc_a14 uc_a13 uc_a11 uF0 100 0 2 21 wa gi lo tu 2 5).1 = 0 := (ob_step (qtk := 21) (by decide) uc_e74 uc_e73 wa gi lo tu uZ uZ uZ uZ).1.trans (by decide +kernel)
theorem uc_e76 : (X0_step uc_a3 uc_a4 uc_a14 uc_a13 uc_a11 uF0 100 0 2 21 uZ uZ uZ uZ 2 5).2.1 = uc_a14 := by
  refine funext fun q => ?_
  by_cases hq : q < 2
  · rcases (show q = 0 ∨ q = 1 by omega) with rfl | rfl
    · decide +kernel
    · decide +kernel
  · rw [step_hi (by decide) (Nat.le_of_not_lt hq)]
theorem uc_e77 (wa gi lo tu : AR) : (X0_step uc_a3 uc_a4 uc_a14 uc_a13 uc_a11 uF0 100 0 2 21 wa gi lo tu 2 5).2.1 = uc_a14 := (ob_step (qtk := 21) (by decide) uc_e74 uc_e73 wa gi lo tu uZ uZ uZ uZ).2.1.trans uc_e76
theorem uc_e78 (wa gi lo tu : AR) : (X0_step uc_a3 uc_a4 uc_a14 uc_a13 uc_a11 uF0 100 0 2 21 wa gi lo tu 2 5).2.2.1 = 7 := (ob_step (qtk := 21) (by decide) uc_e74 uc_e73 wa gi lo tu uZ uZ uZ uZ).2.2.1.trans (by decide +kernel)
theorem uc_e79 (wa gi lo tu : AR) : (X0_step uc_a3 uc_a4 uc_a14 uc_a13 uc_a11 uF0 100 0 2 21 wa gi lo tu 2 5).2.2.2.1 = 21 := (ob_step (qtk := 21) (by decide) uc_e74 uc_e73 wa gi lo tu uZ uZ uZ uZ).2.2.2.trans (by decide +kernel)
theorem uc_e80 : Iv 100 2 uc_a3 uc_a4 uc_a14 uc_a13 uc_a11 uF0 2 100 0 7 := by unfold Iv; decide +kernel
theorem uc_e81 (wa gi lo tu : AR) : ((X0_held uc_a3 uc_a4 uc_a14 uc_a13 uc_a11 uF0 100 0 7 wa gi lo tu 2).1) = 0 := (ob_held (by decide) uc_e80 wa gi lo tu uZ uZ uZ uZ).trans (by decide +kernel)
theorem uc_e82 : (X0_canBeReady uc_a3 uc_a4 uc_a14 uc_a13 uc_a11 7 2) = 0 := by decide +kernel
theorem uc_e83 : (X0_stay_T uc_a14 2 2 0 4) = 0 := by decide +kernel
theorem uc_e84 : ((X0_stay uc_a14 uc_a11 2 7 2 0 4).1) = 4 := by decide +kernel
def uc_a15 : AR := upd uc_a11 (0 : Int32).toNatClampNeg ((if uc_a11 (0 : Int32).toNatClampNeg < 7 then 7 else uc_a11 (0 : Int32).toNatClampNeg) + 4)
theorem uc_e85 : ((X0_stay uc_a14 uc_a11 2 7 2 0 4).2) = uc_a15 := by rw [X0_stay_eq uc_e83]; try rfl
theorem uc_e86 : (X0_left_T 2 2 0) = 0 := by decide +kernel
theorem uc_e87 : (X0_left uc_a14 uc_a15 2 7 2 0) = 4 := by decide +kernel
theorem uc_e88 : (X0_laxity_T uc_a14 2 2 0) = 0 := by decide +kernel
theorem uc_e89 : (X0_laxity uc_a3 uc_a4 uc_a14 uc_a13 uc_a15 2 7 2 0) = 3 := by decide +kernel
theorem uc_e90 : (X0_canBeReady uc_a3 uc_a4 uc_a14 uc_a13 uc_a15 7 2) = 1 := by decide +kernel
theorem uc_e91 : (X0_stay_T uc_a14 2 2 0 500) = 0 := by decide +kernel
theorem uc_e92 : ((X0_stay uc_a14 uc_a15 2 7 2 0 500).1) = 504 := by decide +kernel
def uc_a16 : AR := upd uc_a15 (0 : Int32).toNatClampNeg ((if uc_a15 (0 : Int32).toNatClampNeg < 7 then 7 else uc_a15 (0 : Int32).toNatClampNeg) + 500)
theorem uc_e93 : ((X0_stay uc_a14 uc_a15 2 7 2 0 500).2) = uc_a16 := by rw [X0_stay_eq uc_e91]; try rfl
theorem uc_e94 : (X0_current_T 2 2 0) = 0 := by decide +kernel
theorem uc_e95 : Iv 100 2 uc_a3 uc_a4 uc_a14 uc_a13 uc_a16 uF0 2 100 0 7 := by unfold Iv; decide +kernel
theorem uc_e96 (wa gi lo tu : AR) : ((X0_current uc_a3 uc_a4 uc_a14 uc_a13 uc_a16 uF0 2 100 0 7 wa gi lo tu 2 0).1) = 1 := (ob_current (by decide) uc_e95 uc_e94 wa gi lo tu uZ uZ uZ uZ).trans (by decide +kernel)
theorem uc_e97 : (X0_step_T 2 1) = 0 := by decide +kernel
theorem uc_e98 (wa gi lo tu : AR) : (X0_step uc_a3 uc_a4 uc_a14 uc_a13 uc_a16 uF0 100 0 7 21 wa gi lo tu 2 1).1 = 2 := (ob_step (qtk := 21) (by decide) uc_e95 uc_e97 wa gi lo tu uZ uZ uZ uZ).1.trans (by decide +kernel)
def uc_a17 : AR := (upd uc_a14 0 0)
theorem uc_e99 : (X0_step uc_a3 uc_a4 uc_a14 uc_a13 uc_a16 uF0 100 0 7 21 uZ uZ uZ uZ 2 1).2.1 = uc_a17 := by
  refine funext fun q => ?_
  by_cases hq : q < 2
  · rcases (show q = 0 ∨ q = 1 by omega) with rfl | rfl
    · decide +kernel
    · decide +kernel
  · rw [step_hi (by decide) (Nat.le_of_not_lt hq)]
    unfold uc_a17
    rw [upd_ne (by omega)]
theorem uc_e100 (wa gi lo tu : AR) : (X0_step uc_a3 uc_a4 uc_a14 uc_a13 uc_a16 uF0 100 0 7 21 wa gi lo tu 2 1).2.1 = uc_a17 := (ob_step (qtk := 21) (by decide) uc_e95 uc_e97 wa gi lo tu uZ uZ uZ uZ).2.1.trans uc_e99
theorem uc_e101 (wa gi lo tu : AR) : (X0_step uc_a3 uc_a4 uc_a14 uc_a13 uc_a16 uF0 100 0 7 21 wa gi lo tu 2 1).2.2.1 = 8 := (ob_step (qtk := 21) (by decide) uc_e95 uc_e97 wa gi lo tu uZ uZ uZ uZ).2.2.1.trans (by decide +kernel)
theorem uc_e102 (wa gi lo tu : AR) : (X0_step uc_a3 uc_a4 uc_a14 uc_a13 uc_a16 uF0 100 0 7 21 wa gi lo tu 2 1).2.2.2.1 = 23 := (ob_step (qtk := 21) (by decide) uc_e95 uc_e97 wa gi lo tu uZ uZ uZ uZ).2.2.2.trans (by decide +kernel)
theorem uc_e103 : (X0_need_T 2 2 0) = 0 := by decide +kernel
theorem uc_e104 : (X0_need uc_a17 2 2 0) = 0 := by decide +kernel
theorem uc_e105 : (X0_current_T 2 2 0) = 0 := by decide +kernel
theorem uc_e106 : Iv 100 2 uc_a3 uc_a4 uc_a17 uc_a13 uc_a16 uF0 2 100 0 8 := by unfold Iv; decide +kernel
theorem uc_e107 (wa gi lo tu : AR) : ((X0_current uc_a3 uc_a4 uc_a17 uc_a13 uc_a16 uF0 2 100 0 8 wa gi lo tu 2 0).1) = 0 := (ob_current (by decide) uc_e106 uc_e105 wa gi lo tu uZ uZ uZ uZ).trans (by decide +kernel)
theorem uc_e108 : (X0_laxity_T uc_a17 2 2 0) = 0 := by decide +kernel
theorem uc_e109 : (X0_laxity uc_a3 uc_a4 uc_a17 uc_a13 uc_a16 2 8 2 0) = 503 := by decide +kernel
theorem uc_e110 : (X0_takeOut_T uc_a17 2 2 0) = 0 := by decide +kernel
theorem uc_e111 : ((X0_takeOut uc_a17 2 0 2 0).1) = 0 := by decide +kernel
def uc_a18 : AR := upd uc_a17 (0 : Int32).toNatClampNeg (-1)
theorem uc_e112 : ((X0_takeOut uc_a17 2 0 2 0).2.1) = uc_a18 := X0_takeOut_ne uc_e110
theorem uc_e113 : ((X0_takeOut uc_a17 2 0 2 0).2.2) = 1 := by decide +kernel
theorem uc_e114 : (X0_served 1) = 1 := by decide +kernel
theorem uc_e115 : (X0_need_T 2 2 0) = 0 := by decide +kernel
theorem uc_e116 : (X0_need uc_a18 2 2 0) = (-1) := by decide +kernel
theorem uc_e117 : (X0_takeOut_T uc_a18 2 2 1) = 0 := by decide +kernel
theorem uc_e118 : ((X0_takeOut uc_a18 2 1 2 1).1) = 0 := by decide +kernel
def uc_a19 : AR := upd uc_a18 (1 : Int32).toNatClampNeg (-1)
theorem uc_e119 : ((X0_takeOut uc_a18 2 1 2 1).2.1) = uc_a19 := X0_takeOut_ne uc_e117
theorem uc_e120 : ((X0_takeOut uc_a18 2 1 2 1).2.2) = 2 := by decide +kernel
theorem uc_e121 : (X0_served 2) = 2 := by decide +kernel
theorem uc_e122 : (X0_plugIn_T uc_a19 2 2 1 5000 1 500) = 0 := by decide +kernel
theorem uc_e123 : ((X0_plugIn uc_a3 uc_a4 uc_a19 uc_a13 uc_a16 2 8 2 1 5000 1 500).1) = (-4500) := by decide +kernel
def uc_a20 : AR := upd uc_a19 (1 : Int32).toNatClampNeg 5000
theorem uc_e124 : ((X0_plugIn uc_a3 uc_a4 uc_a19 uc_a13 uc_a16 2 8 2 1 5000 1 500).2.1) = uc_a20 := by rw [X0_plugIn_eq uc_e122]; try rfl
def uc_a21 : AR := upd uc_a13 (1 : Int32).toNatClampNeg 1
theorem uc_e125 : ((X0_plugIn uc_a3 uc_a4 uc_a19 uc_a13 uc_a16 2 8 2 1 5000 1 500).2.2.1) = uc_a21 := by rw [X0_plugIn_eq uc_e122]; try rfl
def uc_a22 : AR := upd uc_a16 (1 : Int32).toNatClampNeg (8 + 500)
theorem uc_e126 : ((X0_plugIn uc_a3 uc_a4 uc_a19 uc_a13 uc_a16 2 8 2 1 5000 1 500).2.2.2) = uc_a22 := by rw [X0_plugIn_eq uc_e122]; try rfl
theorem uc_e127 : (X0_takeOut_T uc_a20 2 2 1) = 0 := by decide +kernel
theorem uc_e128 : ((X0_takeOut uc_a20 2 2 2 1).1) = 5000 := by decide +kernel
def uc_a23 : AR := upd uc_a20 (1 : Int32).toNatClampNeg (-1)
theorem uc_e129 : ((X0_takeOut uc_a20 2 2 2 1).2.1) = uc_a23 := X0_takeOut_ne uc_e127
theorem uc_e130 : ((X0_takeOut uc_a20 2 2 2 1).2.2) = 2 := by decide +kernel
theorem uc_e131 : (X0_served 2) = 2 := by decide +kernel
theorem uc_e132 : (X0_taken 23) = 23 := by decide +kernel
theorem uc_e133 : Iv 100 2 uc_a3 uc_a4 uc_a23 uc_a21 uc_a22 uF0 2 100 0 8 := by unfold Iv; decide +kernel
