theorem us_e0 : (X0_points 0) = 0 := by decide +kernel
theorem us_e1 : Iv 100 0 uZ uZ uZ uZ uZ uF0 0 100 0 0 := by unfold Iv; decide +kernel
theorem us_e2 (wa gi lo tu : AR) : ((X0_held uZ uZ uZ uZ uZ uF0 100 0 0 wa gi lo tu 0).1) = 0 := (ob_held (by decide) us_e1 wa gi lo tu uZ uZ uZ uZ).trans (by decide +kernel)
theorem us_e3 (wa gi lo tu : AR) : ((X0_imbalance uZ uZ uZ uZ uZ uF0 100 0 0 wa gi lo tu 0).1) = 0 := (ob_imbalance (by decide) us_e1 wa gi lo tu uZ uZ uZ uZ).trans (by decide +kernel)
theorem us_e4 : (X0_canBeReady uZ uZ uZ uZ uZ 0 0) = 1 := by decide +kernel
theorem us_e5 : (X0_fairLevel_T 0 1) = 0 := by decide +kernel
theorem us_e6 (wa gi lo tu : AR) : ((X0_fairLevel uZ uZ uZ uZ uZ uF0 100 0 0 wa gi lo tu 0 1).1) = (-1) := (ob_fairLevel (by decide) us_e1 us_e5 wa gi lo tu uZ uZ uZ uZ).trans (by decide +kernel)
theorem us_e7 : (X0_step_T 0 50) = 0 := by decide +kernel
theorem us_e8 (wa gi lo tu : AR) : (X0_step uZ uZ uZ uZ uZ uF0 100 0 0 0 wa gi lo tu 0 50).1 = 0 := (ob_step (qtk := 0) (by decide) us_e1 us_e7 wa gi lo tu uZ uZ uZ uZ).1.trans (by decide +kernel)
theorem us_e9 : (X0_step uZ uZ uZ uZ uZ uF0 100 0 0 0 uZ uZ uZ uZ 0 50).2.1 = uZ := by
  refine funext fun q => ?_
  by_cases hq : q < 0
  · exact absurd hq (Nat.not_lt_zero _)
  · rw [step_hi (by decide) (Nat.le_of_not_lt hq)]
theorem us_e10 (wa gi lo tu : AR) : (X0_step uZ uZ uZ uZ uZ uF0 100 0 0 0 wa gi lo tu 0 50).2.1 = uZ := (ob_step (qtk := 0) (by decide) us_e1 us_e7 wa gi lo tu uZ uZ uZ uZ).2.1.trans us_e9
theorem us_e11 (wa gi lo tu : AR) : (X0_step uZ uZ uZ uZ uZ uF0 100 0 0 0 wa gi lo tu 0 50).2.2.1 = 50 := (ob_step (qtk := 0) (by decide) us_e1 us_e7 wa gi lo tu uZ uZ uZ uZ).2.2.1.trans (by decide +kernel)
theorem us_e12 (wa gi lo tu : AR) : (X0_step uZ uZ uZ uZ uZ uF0 100 0 0 0 wa gi lo tu 0 50).2.2.2.1 = 0 := (ob_step (qtk := 0) (by decide) us_e1 us_e7 wa gi lo tu uZ uZ uZ uZ).2.2.2.trans (by decide +kernel)
theorem us_e13 : (X0_time 50) = 50 := by decide +kernel
theorem us_e14 : (X0_takeOut_T uZ 0 0 0) = 1 := by decide +kernel
theorem us_e15 : (X0_point_T 0 0 0 16) = 0 := by decide +kernel
theorem us_e16 : ((X0_point uZ uZ uZ 0 0 0 16).1) = 0 := by decide +kernel
def us_a0 : AR := upd uZ (0 : Int32).toNatClampNeg 0
theorem us_e17 : ((X0_point uZ uZ uZ 0 0 0 16).2.1) = us_a0 := by rw [X0_point_eq us_e15]; try rfl
def us_a1 : AR := upd uZ (0 : Int32).toNatClampNeg 16
theorem us_e18 : ((X0_point uZ uZ uZ 0 0 0 16).2.2.1) = us_a1 := by rw [X0_point_eq us_e15]; try rfl
def us_a2 : AR := upd uZ (0 : Int32).toNatClampNeg (-1)
theorem us_e19 : ((X0_point uZ uZ uZ 0 0 0 16).2.2.2.1) = us_a2 := by rw [X0_point_eq us_e15]; try rfl
theorem us_e20 : ((X0_point uZ uZ uZ 0 0 0 16).2.2.2.2) = 1 := by decide +kernel
theorem us_e21 : (X0_point_T 1 1 0 32) = 0 := by decide +kernel
theorem us_e22 : ((X0_point us_a0 us_a1 us_a2 1 1 0 32).1) = 1 := by decide +kernel
def us_a3 : AR := upd us_a0 (1 : Int32).toNatClampNeg 0
theorem us_e23 : ((X0_point us_a0 us_a1 us_a2 1 1 0 32).2.1) = us_a3 := by rw [X0_point_eq us_e21]; try rfl
def us_a4 : AR := upd us_a1 (1 : Int32).toNatClampNeg 32
theorem us_e24 : ((X0_point us_a0 us_a1 us_a2 1 1 0 32).2.2.1) = us_a4 := by rw [X0_point_eq us_e21]; try rfl
def us_a5 : AR := upd us_a2 (1 : Int32).toNatClampNeg (-1)
theorem us_e25 : ((X0_point us_a0 us_a1 us_a2 1 1 0 32).2.2.2.1) = us_a5 := by rw [X0_point_eq us_e21]; try rfl
theorem us_e26 : ((X0_point us_a0 us_a1 us_a2 1 1 0 32).2.2.2.2) = 2 := by decide +kernel
theorem us_e27 : (X0_point_T 2 2 1 32) = 0 := by decide +kernel
theorem us_e28 : ((X0_point us_a3 us_a4 us_a5 2 2 1 32).1) = 2 := by decide +kernel
def us_a6 : AR := upd us_a3 (2 : Int32).toNatClampNeg 1
theorem us_e29 : ((X0_point us_a3 us_a4 us_a5 2 2 1 32).2.1) = us_a6 := by rw [X0_point_eq us_e27]; try rfl
def us_a7 : AR := upd us_a4 (2 : Int32).toNatClampNeg 32
theorem us_e30 : ((X0_point us_a3 us_a4 us_a5 2 2 1 32).2.2.1) = us_a7 := by rw [X0_point_eq us_e27]; try rfl
def us_a8 : AR := upd us_a5 (2 : Int32).toNatClampNeg (-1)
theorem us_e31 : ((X0_point us_a3 us_a4 us_a5 2 2 1 32).2.2.2.1) = us_a8 := by rw [X0_point_eq us_e27]; try rfl
theorem us_e32 : ((X0_point us_a3 us_a4 us_a5 2 2 1 32).2.2.2.2) = 3 := by decide +kernel
theorem us_e33 : (X0_point_T 3 3 3 20) = 0 := by decide +kernel
theorem us_e34 : ((X0_point us_a6 us_a7 us_a8 3 3 3 20).1) = 3 := by decide +kernel
def us_a9 : AR := upd us_a6 (3 : Int32).toNatClampNeg 3
theorem us_e35 : ((X0_point us_a6 us_a7 us_a8 3 3 3 20).2.1) = us_a9 := by rw [X0_point_eq us_e33]; try rfl
def us_a10 : AR := upd us_a7 (3 : Int32).toNatClampNeg 20
theorem us_e36 : ((X0_point us_a6 us_a7 us_a8 3 3 3 20).2.2.1) = us_a10 := by rw [X0_point_eq us_e33]; try rfl
def us_a11 : AR := upd us_a8 (3 : Int32).toNatClampNeg (-1)
theorem us_e37 : ((X0_point us_a6 us_a7 us_a8 3 3 3 20).2.2.2.1) = us_a11 := by rw [X0_point_eq us_e33]; try rfl
theorem us_e38 : ((X0_point us_a6 us_a7 us_a8 3 3 3 20).2.2.2.2) = 4 := by decide +kernel
theorem us_e39 : (X0_need_T 4 4 0) = 0 := by decide +kernel
theorem us_e40 : (X0_need us_a11 4 4 0) = (-1) := by decide +kernel
theorem us_e41 : (X0_left_T 4 4 0) = 0 := by decide +kernel
theorem us_e42 : (X0_left us_a11 uZ 4 50 4 0) = (-1) := by decide +kernel
theorem us_e43 : (X0_reach_T 4 4 0) = 0 := by decide +kernel
theorem us_e44 : (X0_reach us_a9 us_a10 us_a11 uZ uZ 4 50 4 0) = 0 := by decide +kernel
theorem us_e45 : (X0_laxity_T us_a11 4 4 0) = 2 := by decide +kernel
theorem us_e46 : (X0_takeOut_T us_a11 4 4 0) = 2 := by decide +kernel
theorem us_e47 : (X0_appetite_T us_a11 4 4 0 5) = 3 := by decide +kernel
theorem us_e48 : (X0_stay_T us_a11 4 4 0 5) = 3 := by decide +kernel
theorem us_e49 : Iv 100 4 us_a9 us_a10 us_a11 uZ uZ uF0 4 100 0 50 := by unfold Iv; decide +kernel
theorem us_e50 : (X0_plugIn_T us_a11 4 4 0 100 32 10) = 0 := by decide +kernel
theorem us_e51 : ((X0_plugIn us_a9 us_a10 us_a11 uZ uZ 4 50 4 0 100 32 10).1) = 3 := by decide +kernel
def us_a12 : AR := upd us_a11 (0 : Int32).toNatClampNeg 100
theorem us_e52 : ((X0_plugIn us_a9 us_a10 us_a11 uZ uZ 4 50 4 0 100 32 10).2.1) = us_a12 := by rw [X0_plugIn_eq us_e50]; try rfl
def us_a13 : AR := upd uZ (0 : Int32).toNatClampNeg 32
theorem us_e53 : ((X0_plugIn us_a9 us_a10 us_a11 uZ uZ 4 50 4 0 100 32 10).2.2.1) = us_a13 := by rw [X0_plugIn_eq us_e50]; try rfl
def us_a14 : AR := upd uZ (0 : Int32).toNatClampNeg (50 + 10)
theorem us_e54 : ((X0_plugIn us_a9 us_a10 us_a11 uZ uZ 4 50 4 0 100 32 10).2.2.2) = us_a14 := by rw [X0_plugIn_eq us_e50]; try rfl
theorem us_e55 : (X0_plugIn_T us_a12 4 4 1 20 10 5) = 0 := by decide +kernel
theorem us_e56 : ((X0_plugIn us_a9 us_a10 us_a12 us_a13 us_a14 4 50 4 1 20 10 5).1) = 3 := by decide +kernel
def us_a15 : AR := upd us_a12 (1 : Int32).toNatClampNeg 20
theorem us_e57 : ((X0_plugIn us_a9 us_a10 us_a12 us_a13 us_a14 4 50 4 1 20 10 5).2.1) = us_a15 := by rw [X0_plugIn_eq us_e55]; try rfl
def us_a16 : AR := upd us_a13 (1 : Int32).toNatClampNeg 10
theorem us_e58 : ((X0_plugIn us_a9 us_a10 us_a12 us_a13 us_a14 4 50 4 1 20 10 5).2.2.1) = us_a16 := by rw [X0_plugIn_eq us_e55]; try rfl
def us_a17 : AR := upd us_a14 (1 : Int32).toNatClampNeg (50 + 5)
theorem us_e59 : ((X0_plugIn us_a9 us_a10 us_a12 us_a13 us_a14 4 50 4 1 20 10 5).2.2.2) = us_a17 := by rw [X0_plugIn_eq us_e55]; try rfl
theorem us_e60 : (X0_plugIn_T us_a15 4 4 2 300 32 9) = 0 := by decide +kernel
theorem us_e61 : ((X0_plugIn us_a9 us_a10 us_a15 us_a16 us_a17 4 50 4 2 300 32 9).1) = (-1) := by decide +kernel
def us_a18 : AR := upd us_a15 (2 : Int32).toNatClampNeg 300
theorem us_e62 : ((X0_plugIn us_a9 us_a10 us_a15 us_a16 us_a17 4 50 4 2 300 32 9).2.1) = us_a18 := by rw [X0_plugIn_eq us_e60]; try rfl
def us_a19 : AR := upd us_a16 (2 : Int32).toNatClampNeg 32
theorem us_e63 : ((X0_plugIn us_a9 us_a10 us_a15 us_a16 us_a17 4 50 4 2 300 32 9).2.2.1) = us_a19 := by rw [X0_plugIn_eq us_e60]; try rfl
def us_a20 : AR := upd us_a17 (2 : Int32).toNatClampNeg (50 + 9)
theorem us_e64 : ((X0_plugIn us_a9 us_a10 us_a15 us_a16 us_a17 4 50 4 2 300 32 9).2.2.2) = us_a20 := by rw [X0_plugIn_eq us_e60]; try rfl
theorem us_e65 : (X0_plugIn_T us_a18 4 4 3 90 32 4) = 0 := by decide +kernel
theorem us_e66 : ((X0_plugIn us_a9 us_a10 us_a18 us_a19 us_a20 4 50 4 3 90 32 4).1) = 2 := by decide +kernel
def us_a21 : AR := upd us_a18 (3 : Int32).toNatClampNeg 90
theorem us_e67 : ((X0_plugIn us_a9 us_a10 us_a18 us_a19 us_a20 4 50 4 3 90 32 4).2.1) = us_a21 := by rw [X0_plugIn_eq us_e65]; try rfl
def us_a22 : AR := upd us_a19 (3 : Int32).toNatClampNeg 32
theorem us_e68 : ((X0_plugIn us_a9 us_a10 us_a18 us_a19 us_a20 4 50 4 3 90 32 4).2.2.1) = us_a22 := by rw [X0_plugIn_eq us_e65]; try rfl
def us_a23 : AR := upd us_a20 (3 : Int32).toNatClampNeg (50 + 4)
theorem us_e69 : ((X0_plugIn us_a9 us_a10 us_a18 us_a19 us_a20 4 50 4 3 90 32 4).2.2.2) = us_a23 := by rw [X0_plugIn_eq us_e65]; try rfl
theorem us_e70 : (X0_plugIn_T us_a21 4 4 3 5 5 5) = 3 := by decide +kernel
theorem us_e71 : (X0_reach_T 4 4 0) = 0 := by decide +kernel
theorem us_e72 : (X0_reach us_a9 us_a10 us_a21 us_a22 us_a23 4 50 4 0) = 16 := by decide +kernel
theorem us_e73 : (X0_reach_T 4 4 1) = 0 := by decide +kernel
theorem us_e74 : (X0_reach us_a9 us_a10 us_a21 us_a22 us_a23 4 50 4 1) = 10 := by decide +kernel
theorem us_e75 : (X0_reach_T 4 4 2) = 0 := by decide +kernel
theorem us_e76 : (X0_reach us_a9 us_a10 us_a21 us_a22 us_a23 4 50 4 2) = 32 := by decide +kernel
theorem us_e77 : (X0_reach_T 4 4 3) = 0 := by decide +kernel
theorem us_e78 : (X0_reach us_a9 us_a10 us_a21 us_a22 us_a23 4 50 4 3) = 20 := by decide +kernel
theorem us_e79 : (X0_canBeReady us_a9 us_a10 us_a21 us_a22 us_a23 50 4) = 0 := by decide +kernel
theorem us_e80 : (X0_current_T 4 4 0) = 0 := by decide +kernel
theorem us_e81 : Iv 100 4 us_a9 us_a10 us_a21 us_a22 us_a23 uF0 4 100 0 50 := by unfold Iv; decide +kernel
theorem us_e82 (wa gi lo tu : AR) : ((X0_current us_a9 us_a10 us_a21 us_a22 us_a23 uF0 4 100 0 50 wa gi lo tu 4 0).1) = 16 := (ob_current (by decide) us_e81 us_e80 wa gi lo tu uZ uZ uZ uZ).trans (by decide +kernel)
theorem us_e83 : (X0_current_T 4 4 1) = 0 := by decide +kernel
theorem us_e84 (wa gi lo tu : AR) : ((X0_current us_a9 us_a10 us_a21 us_a22 us_a23 uF0 4 100 0 50 wa gi lo tu 4 1).1) = 10 := (ob_current (by decide) us_e81 us_e83 wa gi lo tu uZ uZ uZ uZ).trans (by decide +kernel)
theorem us_e85 : (X0_current_T 4 4 2) = 0 := by decide +kernel
theorem us_e86 (wa gi lo tu : AR) : ((X0_current us_a9 us_a10 us_a21 us_a22 us_a23 uF0 4 100 0 50 wa gi lo tu 4 2).1) = 32 := (ob_current (by decide) us_e81 us_e85 wa gi lo tu uZ uZ uZ uZ).trans (by decide +kernel)
theorem us_e87 : (X0_current_T 4 4 3) = 0 := by decide +kernel
theorem us_e88 (wa gi lo tu : AR) : ((X0_current us_a9 us_a10 us_a21 us_a22 us_a23 uF0 4 100 0 50 wa gi lo tu 4 3).1) = 0 := (ob_current (by decide) us_e81 us_e87 wa gi lo tu uZ uZ uZ uZ).trans (by decide +kernel)
theorem us_e89 : (X0_load_T 4 0) = 0 := by decide +kernel
theorem us_e90 (wa gi lo tu : AR) : ((X0_load us_a9 us_a10 us_a21 us_a22 us_a23 uF0 100 0 50 wa gi lo tu 4 0).1) = 26 := (ob_load (by decide) us_e81 us_e89 wa gi lo tu uZ uZ uZ uZ).trans (by decide +kernel)
theorem us_e91 : (X0_load_T 4 1) = 0 := by decide +kernel
theorem us_e92 (wa gi lo tu : AR) : ((X0_load us_a9 us_a10 us_a21 us_a22 us_a23 uF0 100 0 50 wa gi lo tu 4 1).1) = 32 := (ob_load (by decide) us_e81 us_e91 wa gi lo tu uZ uZ uZ uZ).trans (by decide +kernel)
theorem us_e93 : (X0_load_T 4 2) = 0 := by decide +kernel
theorem us_e94 (wa gi lo tu : AR) : ((X0_load us_a9 us_a10 us_a21 us_a22 us_a23 uF0 100 0 50 wa gi lo tu 4 2).1) = 0 := (ob_load (by decide) us_e81 us_e93 wa gi lo tu uZ uZ uZ uZ).trans (by decide +kernel)
theorem us_e95 (wa gi lo tu : AR) : ((X0_imbalance us_a9 us_a10 us_a21 us_a22 us_a23 uF0 100 0 50 wa gi lo tu 4).1) = 32 := (ob_imbalance (by decide) us_e81 wa gi lo tu uZ uZ uZ uZ).trans (by decide +kernel)
theorem us_e96 (wa gi lo tu : AR) : ((X0_held us_a9 us_a10 us_a21 us_a22 us_a23 uF0 100 0 50 wa gi lo tu 4).1) = 8 := (ob_held (by decide) us_e81 wa gi lo tu uZ uZ uZ uZ).trans (by decide +kernel)
theorem us_e97 : (X0_fairLevel_T 4 0) = 0 := by decide +kernel
theorem us_e98 (wa gi lo tu : AR) : ((X0_fairLevel us_a9 us_a10 us_a21 us_a22 us_a23 uF0 100 0 50 wa gi lo tu 4 0).1) = (-1) := (ob_fairLevel (by decide) us_e81 us_e97 wa gi lo tu uZ uZ uZ uZ).trans (by decide +kernel)
theorem us_e99 : (X0_fairLevel_T 4 1) = 0 := by decide +kernel
theorem us_e100 (wa gi lo tu : AR) : ((X0_fairLevel us_a9 us_a10 us_a21 us_a22 us_a23 uF0 100 0 50 wa gi lo tu 4 1).1) = (-1) := (ob_fairLevel (by decide) us_e81 us_e99 wa gi lo tu uZ uZ uZ uZ).trans (by decide +kernel)
theorem us_e101 : (X0_fairLevel_T 4 2) = 0 := by decide +kernel
theorem us_e102 (wa gi lo tu : AR) : ((X0_fairLevel us_a9 us_a10 us_a21 us_a22 us_a23 uF0 100 0 50 wa gi lo tu 4 2).1) = (-1) := (ob_fairLevel (by decide) us_e81 us_e101 wa gi lo tu uZ uZ uZ uZ).trans (by decide +kernel)
theorem us_e103 : (X0_rule_T 1) = 0 := by decide +kernel
theorem us_e104 : ((X0_rule 0 1).1) = 0 := by decide +kernel
theorem us_e105 : ((X0_rule 0 1).2) = 1 := by decide +kernel
theorem us_e106 : (X0_current_T 4 4 0) = 0 := by decide +kernel
theorem us_e107 : Iv 100 4 us_a9 us_a10 us_a21 us_a22 us_a23 uF0 4 100 1 50 := by unfold Iv; decide +kernel
theorem us_e108 (wa gi lo tu : AR) : ((X0_current us_a9 us_a10 us_a21 us_a22 us_a23 uF0 4 100 1 50 wa gi lo tu 4 0).1) = 11 := (ob_current (by decide) us_e107 us_e106 wa gi lo tu uZ uZ uZ uZ).trans (by decide +kernel)
theorem us_e109 : (X0_current_T 4 4 1) = 0 := by decide +kernel
theorem us_e110 (wa gi lo tu : AR) : ((X0_current us_a9 us_a10 us_a21 us_a22 us_a23 uF0 4 100 1 50 wa gi lo tu 4 1).1) = 10 := (ob_current (by decide) us_e107 us_e109 wa gi lo tu uZ uZ uZ uZ).trans (by decide +kernel)
theorem us_e111 : (X0_current_T 4 4 2) = 0 := by decide +kernel
theorem us_e112 (wa gi lo tu : AR) : ((X0_current us_a9 us_a10 us_a21 us_a22 us_a23 uF0 4 100 1 50 wa gi lo tu 4 2).1) = 21 := (ob_current (by decide) us_e107 us_e111 wa gi lo tu uZ uZ uZ uZ).trans (by decide +kernel)
theorem us_e113 : (X0_current_T 4 4 3) = 0 := by decide +kernel
theorem us_e114 (wa gi lo tu : AR) : ((X0_current us_a9 us_a10 us_a21 us_a22 us_a23 uF0 4 100 1 50 wa gi lo tu 4 3).1) = 11 := (ob_current (by decide) us_e107 us_e113 wa gi lo tu uZ uZ uZ uZ).trans (by decide +kernel)
theorem us_e115 : (X0_load_T 4 0) = 0 := by decide +kernel
theorem us_e116 (wa gi lo tu : AR) : ((X0_load us_a9 us_a10 us_a21 us_a22 us_a23 uF0 100 1 50 wa gi lo tu 4 0).1) = 32 := (ob_load (by decide) us_e107 us_e115 wa gi lo tu uZ uZ uZ uZ).trans (by decide +kernel)
theorem us_e117 : (X0_load_T 4 1) = 0 := by decide +kernel
theorem us_e118 (wa gi lo tu : AR) : ((X0_load us_a9 us_a10 us_a21 us_a22 us_a23 uF0 100 1 50 wa gi lo tu 4 1).1) = 32 := (ob_load (by decide) us_e107 us_e117 wa gi lo tu uZ uZ uZ uZ).trans (by decide +kernel)
theorem us_e119 : (X0_load_T 4 2) = 0 := by decide +kernel
theorem us_e120 (wa gi lo tu : AR) : ((X0_load us_a9 us_a10 us_a21 us_a22 us_a23 uF0 100 1 50 wa gi lo tu 4 2).1) = 11 := (ob_load (by decide) us_e107 us_e119 wa gi lo tu uZ uZ uZ uZ).trans (by decide +kernel)
theorem us_e121 (wa gi lo tu : AR) : ((X0_imbalance us_a9 us_a10 us_a21 us_a22 us_a23 uF0 100 1 50 wa gi lo tu 4).1) = 21 := (ob_imbalance (by decide) us_e107 wa gi lo tu uZ uZ uZ uZ).trans (by decide +kernel)
theorem us_e122 (wa gi lo tu : AR) : ((X0_held us_a9 us_a10 us_a21 us_a22 us_a23 uF0 100 1 50 wa gi lo tu 4).1) = 13 := (ob_held (by decide) us_e107 wa gi lo tu uZ uZ uZ uZ).trans (by decide +kernel)
theorem us_e123 : (X0_fairLevel_T 4 0) = 0 := by decide +kernel
theorem us_e124 (wa gi lo tu : AR) : ((X0_fairLevel us_a9 us_a10 us_a21 us_a22 us_a23 uF0 100 1 50 wa gi lo tu 4 0).1) = 11000 := (ob_fairLevel (by decide) us_e107 us_e123 wa gi lo tu uZ uZ uZ uZ).trans (by decide +kernel)
theorem us_e125 : (X0_fairLevel_T 4 1) = 0 := by decide +kernel
theorem us_e126 (wa gi lo tu : AR) : ((X0_fairLevel us_a9 us_a10 us_a21 us_a22 us_a23 uF0 100 1 50 wa gi lo tu 4 1).1) = 21000 := (ob_fairLevel (by decide) us_e107 us_e125 wa gi lo tu uZ uZ uZ uZ).trans (by decide +kernel)
theorem us_e127 : (X0_balance_T 10) = 0 := by decide +kernel
theorem us_e128 : ((X0_balance 100 10).1) = 100 := by decide +kernel
theorem us_e129 : ((X0_balance 100 10).2) = 10 := by decide +kernel
theorem us_e130 : (X0_current_T 4 4 0) = 0 := by decide +kernel
theorem us_e131 : Iv 100 4 us_a9 us_a10 us_a21 us_a22 us_a23 uF0 4 10 1 50 := by unfold Iv; decide +kernel
theorem us_e132 (wa gi lo tu : AR) : ((X0_current us_a9 us_a10 us_a21 us_a22 us_a23 uF0 4 10 1 50 wa gi lo tu 4 0).1) = 5 := (ob_current (by decide) us_e131 us_e130 wa gi lo tu uZ uZ uZ uZ).trans (by decide +kernel)
theorem us_e133 : (X0_current_T 4 4 1) = 0 := by decide +kernel
theorem us_e134 (wa gi lo tu : AR) : ((X0_current us_a9 us_a10 us_a21 us_a22 us_a23 uF0 4 10 1 50 wa gi lo tu 4 1).1) = 5 := (ob_current (by decide) us_e131 us_e133 wa gi lo tu uZ uZ uZ uZ).trans (by decide +kernel)
theorem us_e135 : (X0_current_T 4 4 2) = 0 := by decide +kernel
theorem us_e136 (wa gi lo tu : AR) : ((X0_current us_a9 us_a10 us_a21 us_a22 us_a23 uF0 4 10 1 50 wa gi lo tu 4 2).1) = 10 := (ob_current (by decide) us_e131 us_e135 wa gi lo tu uZ uZ uZ uZ).trans (by decide +kernel)
theorem us_e137 : (X0_current_T 4 4 3) = 0 := by decide +kernel
theorem us_e138 (wa gi lo tu : AR) : ((X0_current us_a9 us_a10 us_a21 us_a22 us_a23 uF0 4 10 1 50 wa gi lo tu 4 3).1) = 11 := (ob_current (by decide) us_e131 us_e137 wa gi lo tu uZ uZ uZ uZ).trans (by decide +kernel)
theorem us_e139 : (X0_load_T 4 0) = 0 := by decide +kernel
theorem us_e140 (wa gi lo tu : AR) : ((X0_load us_a9 us_a10 us_a21 us_a22 us_a23 uF0 10 1 50 wa gi lo tu 4 0).1) = 21 := (ob_load (by decide) us_e131 us_e139 wa gi lo tu uZ uZ uZ uZ).trans (by decide +kernel)
theorem us_e141 : (X0_load_T 4 1) = 0 := by decide +kernel
theorem us_e142 (wa gi lo tu : AR) : ((X0_load us_a9 us_a10 us_a21 us_a22 us_a23 uF0 10 1 50 wa gi lo tu 4 1).1) = 21 := (ob_load (by decide) us_e131 us_e141 wa gi lo tu uZ uZ uZ uZ).trans (by decide +kernel)
theorem us_e143 : (X0_load_T 4 2) = 0 := by decide +kernel
theorem us_e144 (wa gi lo tu : AR) : ((X0_load us_a9 us_a10 us_a21 us_a22 us_a23 uF0 10 1 50 wa gi lo tu 4 2).1) = 11 := (ob_load (by decide) us_e131 us_e143 wa gi lo tu uZ uZ uZ uZ).trans (by decide +kernel)
theorem us_e145 (wa gi lo tu : AR) : ((X0_imbalance us_a9 us_a10 us_a21 us_a22 us_a23 uF0 10 1 50 wa gi lo tu 4).1) = 10 := (ob_imbalance (by decide) us_e131 wa gi lo tu uZ uZ uZ uZ).trans (by decide +kernel)
theorem us_e146 (wa gi lo tu : AR) : ((X0_held us_a9 us_a10 us_a21 us_a22 us_a23 uF0 10 1 50 wa gi lo tu 4).1) = 15 := (ob_held (by decide) us_e131 wa gi lo tu uZ uZ uZ uZ).trans (by decide +kernel)
theorem us_e147 : (X0_fairLevel_T 4 0) = 0 := by decide +kernel
theorem us_e148 (wa gi lo tu : AR) : ((X0_fairLevel us_a9 us_a10 us_a21 us_a22 us_a23 uF0 10 1 50 wa gi lo tu 4 0).1) = 11000 := (ob_fairLevel (by decide) us_e131 us_e147 wa gi lo tu uZ uZ uZ uZ).trans (by decide +kernel)
theorem us_e149 : (X0_balance_T 0) = 0 := by decide +kernel
theorem us_e150 : ((X0_balance 10 0).1) = 10 := by decide +kernel
theorem us_e151 : ((X0_balance 10 0).2) = 0 := by decide +kernel
theorem us_e152 : (X0_current_T 4 4 0) = 0 := by decide +kernel
theorem us_e153 : Iv 100 4 us_a9 us_a10 us_a21 us_a22 us_a23 uF0 4 0 1 50 := by unfold Iv; decide +kernel
theorem us_e154 (wa gi lo tu : AR) : ((X0_current us_a9 us_a10 us_a21 us_a22 us_a23 uF0 4 0 1 50 wa gi lo tu 4 0).1) = 0 := (ob_current (by decide) us_e153 us_e152 wa gi lo tu uZ uZ uZ uZ).trans (by decide +kernel)
theorem us_e155 : (X0_current_T 4 4 1) = 0 := by decide +kernel
theorem us_e156 (wa gi lo tu : AR) : ((X0_current us_a9 us_a10 us_a21 us_a22 us_a23 uF0 4 0 1 50 wa gi lo tu 4 1).1) = 0 := (ob_current (by decide) us_e153 us_e155 wa gi lo tu uZ uZ uZ uZ).trans (by decide +kernel)
theorem us_e157 : (X0_current_T 4 4 2) = 0 := by decide +kernel
theorem us_e158 (wa gi lo tu : AR) : ((X0_current us_a9 us_a10 us_a21 us_a22 us_a23 uF0 4 0 1 50 wa gi lo tu 4 2).1) = 0 := (ob_current (by decide) us_e153 us_e157 wa gi lo tu uZ uZ uZ uZ).trans (by decide +kernel)
theorem us_e159 : (X0_current_T 4 4 3) = 0 := by decide +kernel
theorem us_e160 (wa gi lo tu : AR) : ((X0_current us_a9 us_a10 us_a21 us_a22 us_a23 uF0 4 0 1 50 wa gi lo tu 4 3).1) = 11 := (ob_current (by decide) us_e153 us_e159 wa gi lo tu uZ uZ uZ uZ).trans (by decide +kernel)
theorem us_e161 : (X0_load_T 4 0) = 0 := by decide +kernel
theorem us_e162 (wa gi lo tu : AR) : ((X0_load us_a9 us_a10 us_a21 us_a22 us_a23 uF0 0 1 50 wa gi lo tu 4 0).1) = 11 := (ob_load (by decide) us_e153 us_e161 wa gi lo tu uZ uZ uZ uZ).trans (by decide +kernel)
theorem us_e163 : (X0_load_T 4 1) = 0 := by decide +kernel
theorem us_e164 (wa gi lo tu : AR) : ((X0_load us_a9 us_a10 us_a21 us_a22 us_a23 uF0 0 1 50 wa gi lo tu 4 1).1) = 11 := (ob_load (by decide) us_e153 us_e163 wa gi lo tu uZ uZ uZ uZ).trans (by decide +kernel)
theorem us_e165 : (X0_load_T 4 2) = 0 := by decide +kernel
theorem us_e166 (wa gi lo tu : AR) : ((X0_load us_a9 us_a10 us_a21 us_a22 us_a23 uF0 0 1 50 wa gi lo tu 4 2).1) = 11 := (ob_load (by decide) us_e153 us_e165 wa gi lo tu uZ uZ uZ uZ).trans (by decide +kernel)
theorem us_e167 (wa gi lo tu : AR) : ((X0_imbalance us_a9 us_a10 us_a21 us_a22 us_a23 uF0 0 1 50 wa gi lo tu 4).1) = 0 := (ob_imbalance (by decide) us_e153 wa gi lo tu uZ uZ uZ uZ).trans (by decide +kernel)
theorem us_e168 : (X0_balance_T 10) = 0 := by decide +kernel
theorem us_e169 : ((X0_balance 0 10).1) = 0 := by decide +kernel
theorem us_e170 : ((X0_balance 0 10).2) = 10 := by decide +kernel
theorem us_e171 : (X0_step_T 4 1) = 0 := by decide +kernel
theorem us_e172 (wa gi lo tu : AR) : (X0_step us_a9 us_a10 us_a21 us_a22 us_a23 uF0 10 1 50 0 wa gi lo tu 4 1).1 = 53 := (ob_step (qtk := 0) (by decide) us_e131 us_e171 wa gi lo tu uZ uZ uZ uZ).1.trans (by decide +kernel)
def us_a24 : AR := (upd (upd (upd (upd us_a21 0 95) 1 15) 2 290) 3 57)
theorem us_e173 : (X0_step us_a9 us_a10 us_a21 us_a22 us_a23 uF0 10 1 50 0 uZ uZ uZ uZ 4 1).2.1 = us_a24 := by
  refine funext fun q => ?_
  by_cases hq : q < 4
  · rcases (show q = 0 ∨ q = 1 ∨ q = 2 ∨ q = 3 by omega) with rfl | rfl | rfl | rfl
    · decide +kernel
    · decide +kernel
    · decide +kernel
    · decide +kernel
  · rw [step_hi (by decide) (Nat.le_of_not_lt hq)]
    unfold us_a24
    rw [upd_ne (by omega)]
    rw [upd_ne (by omega)]
    rw [upd_ne (by omega)]
    rw [upd_ne (by omega)]
theorem us_e174 (wa gi lo tu : AR) : (X0_step us_a9 us_a10 us_a21 us_a22 us_a23 uF0 10 1 50 0 wa gi lo tu 4 1).2.1 = us_a24 := (ob_step (qtk := 0) (by decide) us_e131 us_e171 wa gi lo tu uZ uZ uZ uZ).2.1.trans us_e173
theorem us_e175 (wa gi lo tu : AR) : (X0_step us_a9 us_a10 us_a21 us_a22 us_a23 uF0 10 1 50 0 wa gi lo tu 4 1).2.2.1 = 51 := (ob_step (qtk := 0) (by decide) us_e131 us_e171 wa gi lo tu uZ uZ uZ uZ).2.2.1.trans (by decide +kernel)
theorem us_e176 (wa gi lo tu : AR) : (X0_step us_a9 us_a10 us_a21 us_a22 us_a23 uF0 10 1 50 0 wa gi lo tu 4 1).2.2.2.1 = 53 := (ob_step (qtk := 0) (by decide) us_e131 us_e171 wa gi lo tu uZ uZ uZ uZ).2.2.2.trans (by decide +kernel)
theorem us_e177 : (X0_time 51) = 51 := by decide +kernel
theorem us_e178 : (X0_need_T 4 4 0) = 0 := by decide +kernel
theorem us_e179 : (X0_need us_a24 4 4 0) = 95 := by decide +kernel
theorem us_e180 : (X0_need_T 4 4 1) = 0 := by decide +kernel
theorem us_e181 : (X0_need us_a24 4 4 1) = 15 := by decide +kernel
theorem us_e182 : (X0_need_T 4 4 2) = 0 := by decide +kernel
theorem us_e183 : (X0_need us_a24 4 4 2) = 290 := by decide +kernel
theorem us_e184 : (X0_need_T 4 4 3) = 0 := by decide +kernel
theorem us_e185 : (X0_need us_a24 4 4 3) = 57 := by decide +kernel
theorem us_e186 : (X0_taken 53) = 53 := by decide +kernel
theorem us_e187 : (X0_left_T 4 4 3) = 0 := by decide +kernel
theorem us_e188 : (X0_left us_a24 us_a23 4 51 4 3) = 3 := by decide +kernel
theorem us_e189 : (X0_laxity_T us_a24 4 4 3) = 0 := by decide +kernel
theorem us_e190 : (X0_laxity us_a9 us_a10 us_a24 us_a22 us_a23 4 51 4 3) = 2 := by decide +kernel
theorem us_e191 : (X0_balance_T 100) = 0 := by decide +kernel
theorem us_e192 : ((X0_balance 10 100).1) = 10 := by decide +kernel
theorem us_e193 : ((X0_balance 10 100).2) = 100 := by decide +kernel
theorem us_e194 : (X0_fuse_T 0 7) = 0 := by decide +kernel
theorem us_e195 : ((X0_fuse uF0 0 7).1) = 32 := by decide +kernel
def us_a25 : AR := upd uF0 (0 : Int32).toNatClampNeg 7
theorem us_e196 : ((X0_fuse uF0 0 7).2) = us_a25 := by rw [X0_fuse_eq us_e194]; try rfl
theorem us_e197 : (X0_current_T 4 4 0) = 0 := by decide +kernel
theorem us_e198 : Iv 100 4 us_a9 us_a10 us_a24 us_a22 us_a23 us_a25 4 100 1 51 := by unfold Iv; decide +kernel
theorem us_e199 (wa gi lo tu : AR) : ((X0_current us_a9 us_a10 us_a24 us_a22 us_a23 us_a25 4 100 1 51 wa gi lo tu 4 0).1) = 3 := (ob_current (by decide) us_e198 us_e197 wa gi lo tu uZ uZ uZ uZ).trans (by decide +kernel)
theorem us_e200 : (X0_current_T 4 4 1) = 0 := by decide +kernel
theorem us_e201 (wa gi lo tu : AR) : ((X0_current us_a9 us_a10 us_a24 us_a22 us_a23 us_a25 4 100 1 51 wa gi lo tu 4 1).1) = 2 := (ob_current (by decide) us_e198 us_e200 wa gi lo tu uZ uZ uZ uZ).trans (by decide +kernel)
theorem us_e202 : (X0_current_T 4 4 2) = 0 := by decide +kernel
theorem us_e203 (wa gi lo tu : AR) : ((X0_current us_a9 us_a10 us_a24 us_a22 us_a23 us_a25 4 100 1 51 wa gi lo tu 4 2).1) = 30 := (ob_current (by decide) us_e198 us_e202 wa gi lo tu uZ uZ uZ uZ).trans (by decide +kernel)
theorem us_e204 : (X0_current_T 4 4 3) = 0 := by decide +kernel
theorem us_e205 (wa gi lo tu : AR) : ((X0_current us_a9 us_a10 us_a24 us_a22 us_a23 us_a25 4 100 1 51 wa gi lo tu 4 3).1) = 2 := (ob_current (by decide) us_e198 us_e204 wa gi lo tu uZ uZ uZ uZ).trans (by decide +kernel)
theorem us_e206 : (X0_load_T 4 0) = 0 := by decide +kernel
theorem us_e207 (wa gi lo tu : AR) : ((X0_load us_a9 us_a10 us_a24 us_a22 us_a23 us_a25 100 1 51 wa gi lo tu 4 0).1) = 7 := (ob_load (by decide) us_e198 us_e206 wa gi lo tu uZ uZ uZ uZ).trans (by decide +kernel)
theorem us_e208 : (X0_load_T 4 1) = 0 := by decide +kernel
theorem us_e209 (wa gi lo tu : AR) : ((X0_load us_a9 us_a10 us_a24 us_a22 us_a23 us_a25 100 1 51 wa gi lo tu 4 1).1) = 32 := (ob_load (by decide) us_e198 us_e208 wa gi lo tu uZ uZ uZ uZ).trans (by decide +kernel)
theorem us_e210 : (X0_load_T 4 2) = 0 := by decide +kernel
theorem us_e211 (wa gi lo tu : AR) : ((X0_load us_a9 us_a10 us_a24 us_a22 us_a23 us_a25 100 1 51 wa gi lo tu 4 2).1) = 2 := (ob_load (by decide) us_e198 us_e210 wa gi lo tu uZ uZ uZ uZ).trans (by decide +kernel)
theorem us_e212 (wa gi lo tu : AR) : ((X0_imbalance us_a9 us_a10 us_a24 us_a22 us_a23 us_a25 100 1 51 wa gi lo tu 4).1) = 30 := (ob_imbalance (by decide) us_e198 wa gi lo tu uZ uZ uZ uZ).trans (by decide +kernel)
theorem us_e213 : (X0_fairLevel_T 4 0) = 0 := by decide +kernel
theorem us_e214 (wa gi lo tu : AR) : ((X0_fairLevel us_a9 us_a10 us_a24 us_a22 us_a23 us_a25 100 1 51 wa gi lo tu 4 0).1) = 2500 := (ob_fairLevel (by decide) us_e198 us_e213 wa gi lo tu uZ uZ uZ uZ).trans (by decide +kernel)
theorem us_e215 : (X0_fuse_T 1 0) = 0 := by decide +kernel
theorem us_e216 : ((X0_fuse us_a25 1 0).1) = 32 := by decide +kernel
def us_a26 : AR := upd us_a25 (1 : Int32).toNatClampNeg 0
theorem us_e217 : ((X0_fuse us_a25 1 0).2) = us_a26 := by rw [X0_fuse_eq us_e215]; try rfl
theorem us_e218 : (X0_current_T 4 4 0) = 0 := by decide +kernel
theorem us_e219 : Iv 100 4 us_a9 us_a10 us_a24 us_a22 us_a23 us_a26 4 100 1 51 := by unfold Iv; decide +kernel
theorem us_e220 (wa gi lo tu : AR) : ((X0_current us_a9 us_a10 us_a24 us_a22 us_a23 us_a26 4 100 1 51 wa gi lo tu 4 0).1) = 4 := (ob_current (by decide) us_e219 us_e218 wa gi lo tu uZ uZ uZ uZ).trans (by decide +kernel)
theorem us_e221 : (X0_current_T 4 4 1) = 0 := by decide +kernel
theorem us_e222 (wa gi lo tu : AR) : ((X0_current us_a9 us_a10 us_a24 us_a22 us_a23 us_a26 4 100 1 51 wa gi lo tu 4 1).1) = 3 := (ob_current (by decide) us_e219 us_e221 wa gi lo tu uZ uZ uZ uZ).trans (by decide +kernel)
theorem us_e223 : (X0_current_T 4 4 2) = 0 := by decide +kernel
theorem us_e224 (wa gi lo tu : AR) : ((X0_current us_a9 us_a10 us_a24 us_a22 us_a23 us_a26 4 100 1 51 wa gi lo tu 4 2).1) = 0 := (ob_current (by decide) us_e219 us_e223 wa gi lo tu uZ uZ uZ uZ).trans (by decide +kernel)
theorem us_e225 : (X0_current_T 4 4 3) = 0 := by decide +kernel
theorem us_e226 (wa gi lo tu : AR) : ((X0_current us_a9 us_a10 us_a24 us_a22 us_a23 us_a26 4 100 1 51 wa gi lo tu 4 3).1) = 0 := (ob_current (by decide) us_e219 us_e225 wa gi lo tu uZ uZ uZ uZ).trans (by decide +kernel)
theorem us_e227 : (X0_fairLevel_T 4 1) = 0 := by decide +kernel
theorem us_e228 (wa gi lo tu : AR) : ((X0_fairLevel us_a9 us_a10 us_a24 us_a22 us_a23 us_a26 100 1 51 wa gi lo tu 4 1).1) = 0 := (ob_fairLevel (by decide) us_e219 us_e227 wa gi lo tu uZ uZ uZ uZ).trans (by decide +kernel)
theorem us_e229 : (X0_fairLevel_T 4 0) = 0 := by decide +kernel
theorem us_e230 (wa gi lo tu : AR) : ((X0_fairLevel us_a9 us_a10 us_a24 us_a22 us_a23 us_a26 100 1 51 wa gi lo tu 4 0).1) = 3500 := (ob_fairLevel (by decide) us_e219 us_e229 wa gi lo tu uZ uZ uZ uZ).trans (by decide +kernel)
theorem us_e231 : (X0_rule_T 0) = 0 := by decide +kernel
theorem us_e232 : ((X0_rule 1 0).1) = 1 := by decide +kernel
theorem us_e233 : ((X0_rule 1 0).2) = 0 := by decide +kernel
theorem us_e234 : (X0_current_T 4 4 0) = 0 := by decide +kernel
theorem us_e235 : Iv 100 4 us_a9 us_a10 us_a24 us_a22 us_a23 us_a26 4 100 0 51 := by unfold Iv; decide +kernel
theorem us_e236 (wa gi lo tu : AR) : ((X0_current us_a9 us_a10 us_a24 us_a22 us_a23 us_a26 4 100 0 51 wa gi lo tu 4 0).1) = 0 := (ob_current (by decide) us_e235 us_e234 wa gi lo tu uZ uZ uZ uZ).trans (by decide +kernel)
theorem us_e237 : (X0_current_T 4 4 1) = 0 := by decide +kernel
theorem us_e238 (wa gi lo tu : AR) : ((X0_current us_a9 us_a10 us_a24 us_a22 us_a23 us_a26 4 100 0 51 wa gi lo tu 4 1).1) = 7 := (ob_current (by decide) us_e235 us_e237 wa gi lo tu uZ uZ uZ uZ).trans (by decide +kernel)
theorem us_e239 : (X0_current_T 4 4 2) = 0 := by decide +kernel
theorem us_e240 (wa gi lo tu : AR) : ((X0_current us_a9 us_a10 us_a24 us_a22 us_a23 us_a26 4 100 0 51 wa gi lo tu 4 2).1) = 0 := (ob_current (by decide) us_e235 us_e239 wa gi lo tu uZ uZ uZ uZ).trans (by decide +kernel)
theorem us_e241 : (X0_current_T 4 4 3) = 0 := by decide +kernel
theorem us_e242 (wa gi lo tu : AR) : ((X0_current us_a9 us_a10 us_a24 us_a22 us_a23 us_a26 4 100 0 51 wa gi lo tu 4 3).1) = 0 := (ob_current (by decide) us_e235 us_e241 wa gi lo tu uZ uZ uZ uZ).trans (by decide +kernel)
theorem us_e243 (wa gi lo tu : AR) : ((X0_held us_a9 us_a10 us_a24 us_a22 us_a23 us_a26 100 0 51 wa gi lo tu 4).1) = 15 := (ob_held (by decide) us_e235 wa gi lo tu uZ uZ uZ uZ).trans (by decide +kernel)
