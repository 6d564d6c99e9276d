theorem ut_e0 : (X0_point_T 0 0 0 6) = 0 := by decide +kernel
theorem ut_e1 : ((X0_point uZ uZ uZ 0 0 0 6).1) = 0 := by decide +kernel
def ut_a0 : AR := upd uZ (0 : Int32).toNatClampNeg 0
theorem ut_e2 : ((X0_point uZ uZ uZ 0 0 0 6).2.1) = ut_a0 := by rw [X0_point_eq ut_e0]; try rfl
def ut_a1 : AR := upd uZ (0 : Int32).toNatClampNeg 6
theorem ut_e3 : ((X0_point uZ uZ uZ 0 0 0 6).2.2.1) = ut_a1 := by rw [X0_point_eq ut_e0]; try rfl
def ut_a2 : AR := upd uZ (0 : Int32).toNatClampNeg (-1)
theorem ut_e4 : ((X0_point uZ uZ uZ 0 0 0 6).2.2.2.1) = ut_a2 := by rw [X0_point_eq ut_e0]; try rfl
theorem ut_e5 : ((X0_point uZ uZ uZ 0 0 0 6).2.2.2.2) = 1 := by decide +kernel
theorem ut_e6 : (X0_point_T 1 1 1 7) = 0 := by decide +kernel
theorem ut_e7 : ((X0_point ut_a0 ut_a1 ut_a2 1 1 1 7).1) = 1 := by decide +kernel
def ut_a3 : AR := upd ut_a0 (1 : Int32).toNatClampNeg 1
theorem ut_e8 : ((X0_point ut_a0 ut_a1 ut_a2 1 1 1 7).2.1) = ut_a3 := by rw [X0_point_eq ut_e6]; try rfl
def ut_a4 : AR := upd ut_a1 (1 : Int32).toNatClampNeg 7
theorem ut_e9 : ((X0_point ut_a0 ut_a1 ut_a2 1 1 1 7).2.2.1) = ut_a4 := by rw [X0_point_eq ut_e6]; try rfl
def ut_a5 : AR := upd ut_a2 (1 : Int32).toNatClampNeg (-1)
theorem ut_e10 : ((X0_point ut_a0 ut_a1 ut_a2 1 1 1 7).2.2.2.1) = ut_a5 := by rw [X0_point_eq ut_e6]; try rfl
theorem ut_e11 : ((X0_point ut_a0 ut_a1 ut_a2 1 1 1 7).2.2.2.2) = 2 := by decide +kernel
theorem ut_e12 : (X0_point_T 2 2 2 8) = 0 := by decide +kernel
theorem ut_e13 : ((X0_point ut_a3 ut_a4 ut_a5 2 2 2 8).1) = 2 := by decide +kernel
def ut_a6 : AR := upd ut_a3 (2 : Int32).toNatClampNeg 2
theorem ut_e14 : ((X0_point ut_a3 ut_a4 ut_a5 2 2 2 8).2.1) = ut_a6 := by rw [X0_point_eq ut_e12]; try rfl
def ut_a7 : AR := upd ut_a4 (2 : Int32).toNatClampNeg 8
theorem ut_e15 : ((X0_point ut_a3 ut_a4 ut_a5 2 2 2 8).2.2.1) = ut_a7 := by rw [X0_point_eq ut_e12]; try rfl
def ut_a8 : AR := upd ut_a5 (2 : Int32).toNatClampNeg (-1)
theorem ut_e16 : ((X0_point ut_a3 ut_a4 ut_a5 2 2 2 8).2.2.2.1) = ut_a8 := by rw [X0_point_eq ut_e12]; try rfl
theorem ut_e17 : ((X0_point ut_a3 ut_a4 ut_a5 2 2 2 8).2.2.2.2) = 3 := by decide +kernel
theorem ut_e18 : (X0_point_T 3 3 0 9) = 0 := by decide +kernel
theorem ut_e19 : ((X0_point ut_a6 ut_a7 ut_a8 3 3 0 9).1) = 3 := by decide +kernel
def ut_a9 : AR := upd ut_a6 (3 : Int32).toNatClampNeg 0
theorem ut_e20 : ((X0_point ut_a6 ut_a7 ut_a8 3 3 0 9).2.1) = ut_a9 := by rw [X0_point_eq ut_e18]; try rfl
def ut_a10 : AR := upd ut_a7 (3 : Int32).toNatClampNeg 9
theorem ut_e21 : ((X0_point ut_a6 ut_a7 ut_a8 3 3 0 9).2.2.1) = ut_a10 := by rw [X0_point_eq ut_e18]; try rfl
def ut_a11 : AR := upd ut_a8 (3 : Int32).toNatClampNeg (-1)
theorem ut_e22 : ((X0_point ut_a6 ut_a7 ut_a8 3 3 0 9).2.2.2.1) = ut_a11 := by rw [X0_point_eq ut_e18]; try rfl
theorem ut_e23 : ((X0_point ut_a6 ut_a7 ut_a8 3 3 0 9).2.2.2.2) = 4 := by decide +kernel
theorem ut_e24 : (X0_point_T 4 4 1 10) = 0 := by decide +kernel
theorem ut_e25 : ((X0_point ut_a9 ut_a10 ut_a11 4 4 1 10).1) = 4 := by decide +kernel
def ut_a12 : AR := upd ut_a9 (4 : Int32).toNatClampNeg 1
theorem ut_e26 : ((X0_point ut_a9 ut_a10 ut_a11 4 4 1 10).2.1) = ut_a12 := by rw [X0_point_eq ut_e24]; try rfl
def ut_a13 : AR := upd ut_a10 (4 : Int32).toNatClampNeg 10
theorem ut_e27 : ((X0_point ut_a9 ut_a10 ut_a11 4 4 1 10).2.2.1) = ut_a13 := by rw [X0_point_eq ut_e24]; try rfl
def ut_a14 : AR := upd ut_a11 (4 : Int32).toNatClampNeg (-1)
theorem ut_e28 : ((X0_point ut_a9 ut_a10 ut_a11 4 4 1 10).2.2.2.1) = ut_a14 := by rw [X0_point_eq ut_e24]; try rfl
theorem ut_e29 : ((X0_point ut_a9 ut_a10 ut_a11 4 4 1 10).2.2.2.2) = 5 := by decide +kernel
theorem ut_e30 : (X0_point_T 5 5 2 11) = 0 := by decide +kernel
theorem ut_e31 : ((X0_point ut_a12 ut_a13 ut_a14 5 5 2 11).1) = 5 := by decide +kernel
def ut_a15 : AR := upd ut_a12 (5 : Int32).toNatClampNeg 2
theorem ut_e32 : ((X0_point ut_a12 ut_a13 ut_a14 5 5 2 11).2.1) = ut_a15 := by rw [X0_point_eq ut_e30]; try rfl
def ut_a16 : AR := upd ut_a13 (5 : Int32).toNatClampNeg 11
theorem ut_e33 : ((X0_point ut_a12 ut_a13 ut_a14 5 5 2 11).2.2.1) = ut_a16 := by rw [X0_point_eq ut_e30]; try rfl
def ut_a17 : AR := upd ut_a14 (5 : Int32).toNatClampNeg (-1)
theorem ut_e34 : ((X0_point ut_a12 ut_a13 ut_a14 5 5 2 11).2.2.2.1) = ut_a17 := by rw [X0_point_eq ut_e30]; try rfl
theorem ut_e35 : ((X0_point ut_a12 ut_a13 ut_a14 5 5 2 11).2.2.2.2) = 6 := by decide +kernel
theorem ut_e36 : (X0_point_T 6 6 0 12) = 0 := by decide +kernel
theorem ut_e37 : ((X0_point ut_a15 ut_a16 ut_a17 6 6 0 12).1) = 6 := by decide +kernel
def ut_a18 : AR := upd ut_a15 (6 : Int32).toNatClampNeg 0
theorem ut_e38 : ((X0_point ut_a15 ut_a16 ut_a17 6 6 0 12).2.1) = ut_a18 := by rw [X0_point_eq ut_e36]; try rfl
def ut_a19 : AR := upd ut_a16 (6 : Int32).toNatClampNeg 12
theorem ut_e39 : ((X0_point ut_a15 ut_a16 ut_a17 6 6 0 12).2.2.1) = ut_a19 := by rw [X0_point_eq ut_e36]; try rfl
def ut_a20 : AR := upd ut_a17 (6 : Int32).toNatClampNeg (-1)
theorem ut_e40 : ((X0_point ut_a15 ut_a16 ut_a17 6 6 0 12).2.2.2.1) = ut_a20 := by rw [X0_point_eq ut_e36]; try rfl
theorem ut_e41 : ((X0_point ut_a15 ut_a16 ut_a17 6 6 0 12).2.2.2.2) = 7 := by decide +kernel
theorem ut_e42 : (X0_point_T 7 7 1 13) = 0 := by decide +kernel
theorem ut_e43 : ((X0_point ut_a18 ut_a19 ut_a20 7 7 1 13).1) = 7 := by decide +kernel
def ut_a21 : AR := upd ut_a18 (7 : Int32).toNatClampNeg 1
theorem ut_e44 : ((X0_point ut_a18 ut_a19 ut_a20 7 7 1 13).2.1) = ut_a21 := by rw [X0_point_eq ut_e42]; try rfl
def ut_a22 : AR := upd ut_a19 (7 : Int32).toNatClampNeg 13
theorem ut_e45 : ((X0_point ut_a18 ut_a19 ut_a20 7 7 1 13).2.2.1) = ut_a22 := by rw [X0_point_eq ut_e42]; try rfl
def ut_a23 : AR := upd ut_a20 (7 : Int32).toNatClampNeg (-1)
theorem ut_e46 : ((X0_point ut_a18 ut_a19 ut_a20 7 7 1 13).2.2.2.1) = ut_a23 := by rw [X0_point_eq ut_e42]; try rfl
theorem ut_e47 : ((X0_point ut_a18 ut_a19 ut_a20 7 7 1 13).2.2.2.2) = 8 := by decide +kernel
theorem ut_e48 : (X0_point_T 8 8 2 14) = 2 := by decide +kernel
theorem ut_e49 : (X0_plugIn_T ut_a23 8 8 0 10 32 4) = 0 := by decide +kernel
theorem ut_e50 : ((X0_plugIn ut_a21 ut_a22 ut_a23 uZ uZ 8 0 8 0 10 32 4).1) = 2 := by decide +kernel
def ut_a24 : AR := upd ut_a23 (0 : Int32).toNatClampNeg 10
theorem ut_e51 : ((X0_plugIn ut_a21 ut_a22 ut_a23 uZ uZ 8 0 8 0 10 32 4).2.1) = ut_a24 := by rw [X0_plugIn_eq ut_e49]; try rfl
def ut_a25 : AR := upd uZ (0 : Int32).toNatClampNeg 32
theorem ut_e52 : ((X0_plugIn ut_a21 ut_a22 ut_a23 uZ uZ 8 0 8 0 10 32 4).2.2.1) = ut_a25 := by rw [X0_plugIn_eq ut_e49]; try rfl
def ut_a26 : AR := upd uZ (0 : Int32).toNatClampNeg (0 + 4)
theorem ut_e53 : ((X0_plugIn ut_a21 ut_a22 ut_a23 uZ uZ 8 0 8 0 10 32 4).2.2.2) = ut_a26 := by rw [X0_plugIn_eq ut_e49]; try rfl
theorem ut_e54 : (X0_fuse_T 0 12) = 0 := by decide +kernel
theorem ut_e55 : ((X0_fuse uF0 0 12).1) = 32 := by decide +kernel
def ut_a27 : AR := upd uF0 (0 : Int32).toNatClampNeg 12
theorem ut_e56 : ((X0_fuse uF0 0 12).2) = ut_a27 := by rw [X0_fuse_eq ut_e54]; try rfl
theorem ut_e57 : (X0_plugIn_T ut_a24 8 8 1 10 32 4) = 0 := by decide +kernel
theorem ut_e58 : ((X0_plugIn ut_a21 ut_a22 ut_a24 ut_a25 ut_a26 8 0 8 1 10 32 4).1) = 2 := by decide +kernel
def ut_a28 : AR := upd ut_a24 (1 : Int32).toNatClampNeg 10
theorem ut_e59 : ((X0_plugIn ut_a21 ut_a22 ut_a24 ut_a25 ut_a26 8 0 8 1 10 32 4).2.1) = ut_a28 := by rw [X0_plugIn_eq ut_e57]; try rfl
def ut_a29 : AR := upd ut_a25 (1 : Int32).toNatClampNeg 32
theorem ut_e60 : ((X0_plugIn ut_a21 ut_a22 ut_a24 ut_a25 ut_a26 8 0 8 1 10 32 4).2.2.1) = ut_a29 := by rw [X0_plugIn_eq ut_e57]; try rfl
def ut_a30 : AR := upd ut_a26 (1 : Int32).toNatClampNeg (0 + 4)
theorem ut_e61 : ((X0_plugIn ut_a21 ut_a22 ut_a24 ut_a25 ut_a26 8 0 8 1 10 32 4).2.2.2) = ut_a30 := by rw [X0_plugIn_eq ut_e57]; try rfl
theorem ut_e62 : (X0_fuse_T 1 12) = 0 := by decide +kernel
theorem ut_e63 : ((X0_fuse ut_a27 1 12).1) = 32 := by decide +kernel
def ut_a31 : AR := upd ut_a27 (1 : Int32).toNatClampNeg 12
theorem ut_e64 : ((X0_fuse ut_a27 1 12).2) = ut_a31 := by rw [X0_fuse_eq ut_e62]; try rfl
theorem ut_e65 : (X0_plugIn_T ut_a28 8 8 2 10 32 4) = 0 := by decide +kernel
theorem ut_e66 : ((X0_plugIn ut_a21 ut_a22 ut_a28 ut_a29 ut_a30 8 0 8 2 10 32 4).1) = 2 := by decide +kernel
def ut_a32 : AR := upd ut_a28 (2 : Int32).toNatClampNeg 10
theorem ut_e67 : ((X0_plugIn ut_a21 ut_a22 ut_a28 ut_a29 ut_a30 8 0 8 2 10 32 4).2.1) = ut_a32 := by rw [X0_plugIn_eq ut_e65]; try rfl
def ut_a33 : AR := upd ut_a29 (2 : Int32).toNatClampNeg 32
theorem ut_e68 : ((X0_plugIn ut_a21 ut_a22 ut_a28 ut_a29 ut_a30 8 0 8 2 10 32 4).2.2.1) = ut_a33 := by rw [X0_plugIn_eq ut_e65]; try rfl
def ut_a34 : AR := upd ut_a30 (2 : Int32).toNatClampNeg (0 + 4)
theorem ut_e69 : ((X0_plugIn ut_a21 ut_a22 ut_a28 ut_a29 ut_a30 8 0 8 2 10 32 4).2.2.2) = ut_a34 := by rw [X0_plugIn_eq ut_e65]; try rfl
theorem ut_e70 : (X0_fuse_T 2 12) = 0 := by decide +kernel
theorem ut_e71 : ((X0_fuse ut_a31 2 12).1) = 32 := by decide +kernel
def ut_a35 : AR := upd ut_a31 (2 : Int32).toNatClampNeg 12
theorem ut_e72 : ((X0_fuse ut_a31 2 12).2) = ut_a35 := by rw [X0_fuse_eq ut_e70]; try rfl
theorem ut_e73 : (X0_plugIn_T ut_a32 8 8 3 10 32 4) = 0 := by decide +kernel
theorem ut_e74 : ((X0_plugIn ut_a21 ut_a22 ut_a32 ut_a33 ut_a34 8 0 8 3 10 32 4).1) = 2 := by decide +kernel
def ut_a36 : AR := upd ut_a32 (3 : Int32).toNatClampNeg 10
theorem ut_e75 : ((X0_plugIn ut_a21 ut_a22 ut_a32 ut_a33 ut_a34 8 0 8 3 10 32 4).2.1) = ut_a36 := by rw [X0_plugIn_eq ut_e73]; try rfl
def ut_a37 : AR := upd ut_a33 (3 : Int32).toNatClampNeg 32
theorem ut_e76 : ((X0_plugIn ut_a21 ut_a22 ut_a32 ut_a33 ut_a34 8 0 8 3 10 32 4).2.2.1) = ut_a37 := by rw [X0_plugIn_eq ut_e73]; try rfl
def ut_a38 : AR := upd ut_a34 (3 : Int32).toNatClampNeg (0 + 4)
theorem ut_e77 : ((X0_plugIn ut_a21 ut_a22 ut_a32 ut_a33 ut_a34 8 0 8 3 10 32 4).2.2.2) = ut_a38 := by rw [X0_plugIn_eq ut_e73]; try rfl
theorem ut_e78 : (X0_fuse_T 0 12) = 0 := by decide +kernel
theorem ut_e79 : ((X0_fuse ut_a35 0 12).1) = 12 := by decide +kernel
def ut_a39 : AR := upd ut_a35 (0 : Int32).toNatClampNeg 12
theorem ut_e80 : ((X0_fuse ut_a35 0 12).2) = ut_a39 := by rw [X0_fuse_eq ut_e78]; try rfl
theorem ut_e81 : (X0_plugIn_T ut_a36 8 8 4 10 32 4) = 0 := by decide +kernel
theorem ut_e82 : ((X0_plugIn ut_a21 ut_a22 ut_a36 ut_a37 ut_a38 8 0 8 4 10 32 4).1) = 3 := by decide +kernel
def ut_a40 : AR := upd ut_a36 (4 : Int32).toNatClampNeg 10
theorem ut_e83 : ((X0_plugIn ut_a21 ut_a22 ut_a36 ut_a37 ut_a38 8 0 8 4 10 32 4).2.1) = ut_a40 := by rw [X0_plugIn_eq ut_e81]; try rfl
def ut_a41 : AR := upd ut_a37 (4 : Int32).toNatClampNeg 32
theorem ut_e84 : ((X0_plugIn ut_a21 ut_a22 ut_a36 ut_a37 ut_a38 8 0 8 4 10 32 4).2.2.1) = ut_a41 := by rw [X0_plugIn_eq ut_e81]; try rfl
def ut_a42 : AR := upd ut_a38 (4 : Int32).toNatClampNeg (0 + 4)
theorem ut_e85 : ((X0_plugIn ut_a21 ut_a22 ut_a36 ut_a37 ut_a38 8 0 8 4 10 32 4).2.2.2) = ut_a42 := by rw [X0_plugIn_eq ut_e81]; try rfl
theorem ut_e86 : (X0_fuse_T 1 12) = 0 := by decide +kernel
theorem ut_e87 : ((X0_fuse ut_a39 1 12).1) = 12 := by decide +kernel
def ut_a43 : AR := upd ut_a39 (1 : Int32).toNatClampNeg 12
theorem ut_e88 : ((X0_fuse ut_a39 1 12).2) = ut_a43 := by rw [X0_fuse_eq ut_e86]; try rfl
theorem ut_e89 : (X0_plugIn_T ut_a40 8 8 5 10 32 4) = 0 := by decide +kernel
theorem ut_e90 : ((X0_plugIn ut_a21 ut_a22 ut_a40 ut_a41 ut_a42 8 0 8 5 10 32 4).1) = 3 := by decide +kernel
def ut_a44 : AR := upd ut_a40 (5 : Int32).toNatClampNeg 10
theorem ut_e91 : ((X0_plugIn ut_a21 ut_a22 ut_a40 ut_a41 ut_a42 8 0 8 5 10 32 4).2.1) = ut_a44 := by rw [X0_plugIn_eq ut_e89]; try rfl
def ut_a45 : AR := upd ut_a41 (5 : Int32).toNatClampNeg 32
theorem ut_e92 : ((X0_plugIn ut_a21 ut_a22 ut_a40 ut_a41 ut_a42 8 0 8 5 10 32 4).2.2.1) = ut_a45 := by rw [X0_plugIn_eq ut_e89]; try rfl
def ut_a46 : AR := upd ut_a42 (5 : Int32).toNatClampNeg (0 + 4)
theorem ut_e93 : ((X0_plugIn ut_a21 ut_a22 ut_a40 ut_a41 ut_a42 8 0 8 5 10 32 4).2.2.2) = ut_a46 := by rw [X0_plugIn_eq ut_e89]; try rfl
theorem ut_e94 : (X0_fuse_T 2 12) = 0 := by decide +kernel
theorem ut_e95 : ((X0_fuse ut_a43 2 12).1) = 12 := by decide +kernel
def ut_a47 : AR := upd ut_a43 (2 : Int32).toNatClampNeg 12
theorem ut_e96 : ((X0_fuse ut_a43 2 12).2) = ut_a47 := by rw [X0_fuse_eq ut_e94]; try rfl
theorem ut_e97 : (X0_plugIn_T ut_a44 8 8 6 10 32 4) = 0 := by decide +kernel
theorem ut_e98 : ((X0_plugIn ut_a21 ut_a22 ut_a44 ut_a45 ut_a46 8 0 8 6 10 32 4).1) = 3 := by decide +kernel
def ut_a48 : AR := upd ut_a44 (6 : Int32).toNatClampNeg 10
theorem ut_e99 : ((X0_plugIn ut_a21 ut_a22 ut_a44 ut_a45 ut_a46 8 0 8 6 10 32 4).2.1) = ut_a48 := by rw [X0_plugIn_eq ut_e97]; try rfl
def ut_a49 : AR := upd ut_a45 (6 : Int32).toNatClampNeg 32
theorem ut_e100 : ((X0_plugIn ut_a21 ut_a22 ut_a44 ut_a45 ut_a46 8 0 8 6 10 32 4).2.2.1) = ut_a49 := by rw [X0_plugIn_eq ut_e97]; try rfl
def ut_a50 : AR := upd ut_a46 (6 : Int32).toNatClampNeg (0 + 4)
theorem ut_e101 : ((X0_plugIn ut_a21 ut_a22 ut_a44 ut_a45 ut_a46 8 0 8 6 10 32 4).2.2.2) = ut_a50 := by rw [X0_plugIn_eq ut_e97]; try rfl
theorem ut_e102 : (X0_fuse_T 0 12) = 0 := by decide +kernel
theorem ut_e103 : ((X0_fuse ut_a47 0 12).1) = 12 := by decide +kernel
def ut_a51 : AR := upd ut_a47 (0 : Int32).toNatClampNeg 12
theorem ut_e104 : ((X0_fuse ut_a47 0 12).2) = ut_a51 := by rw [X0_fuse_eq ut_e102]; try rfl
theorem ut_e105 : (X0_plugIn_T ut_a48 8 8 7 10 32 4) = 0 := by decide +kernel
theorem ut_e106 : ((X0_plugIn ut_a21 ut_a22 ut_a48 ut_a49 ut_a50 8 0 8 7 10 32 4).1) = 3 := by decide +kernel
def ut_a52 : AR := upd ut_a48 (7 : Int32).toNatClampNeg 10
theorem ut_e107 : ((X0_plugIn ut_a21 ut_a22 ut_a48 ut_a49 ut_a50 8 0 8 7 10 32 4).2.1) = ut_a52 := by rw [X0_plugIn_eq ut_e105]; try rfl
def ut_a53 : AR := upd ut_a49 (7 : Int32).toNatClampNeg 32
theorem ut_e108 : ((X0_plugIn ut_a21 ut_a22 ut_a48 ut_a49 ut_a50 8 0 8 7 10 32 4).2.2.1) = ut_a53 := by rw [X0_plugIn_eq ut_e105]; try rfl
def ut_a54 : AR := upd ut_a50 (7 : Int32).toNatClampNeg (0 + 4)
theorem ut_e109 : ((X0_plugIn ut_a21 ut_a22 ut_a48 ut_a49 ut_a50 8 0 8 7 10 32 4).2.2.2) = ut_a54 := by rw [X0_plugIn_eq ut_e105]; try rfl
theorem ut_e110 : (X0_fuse_T 1 12) = 0 := by decide +kernel
theorem ut_e111 : ((X0_fuse ut_a51 1 12).1) = 12 := by decide +kernel
def ut_a55 : AR := upd ut_a51 (1 : Int32).toNatClampNeg 12
theorem ut_e112 : ((X0_fuse ut_a51 1 12).2) = ut_a55 := by rw [X0_fuse_eq ut_e110]; try rfl
theorem ut_e113 : (X0_current_T 8 8 0) = 0 := by decide +kernel
theorem ut_e114 : Iv 100 8 ut_a21 ut_a22 ut_a52 ut_a53 ut_a54 ut_a55 8 100 0 0 := by unfold Iv; decide +kernel
theorem ut_e115 (wa gi lo tu : AR) : ((X0_current ut_a21 ut_a22 ut_a52 ut_a53 ut_a54 ut_a55 8 100 0 0 wa gi lo tu 8 0).1) = 6 := (ob_current (by decide) ut_e114 ut_e113 wa gi lo tu uZ uZ uZ uZ).trans (by decide +kernel)
theorem ut_e116 : (X0_current_T 8 8 1) = 0 := by decide +kernel
theorem ut_e117 (wa gi lo tu : AR) : ((X0_current ut_a21 ut_a22 ut_a52 ut_a53 ut_a54 ut_a55 8 100 0 0 wa gi lo tu 8 1).1) = 7 := (ob_current (by decide) ut_e114 ut_e116 wa gi lo tu uZ uZ uZ uZ).trans (by decide +kernel)
theorem ut_e118 : (X0_current_T 8 8 2) = 0 := by decide +kernel
theorem ut_e119 (wa gi lo tu : AR) : ((X0_current ut_a21 ut_a22 ut_a52 ut_a53 ut_a54 ut_a55 8 100 0 0 wa gi lo tu 8 2).1) = 8 := (ob_current (by decide) ut_e114 ut_e118 wa gi lo tu uZ uZ uZ uZ).trans (by decide +kernel)
theorem ut_e120 : (X0_current_T 8 8 3) = 0 := by decide +kernel
theorem ut_e121 (wa gi lo tu : AR) : ((X0_current ut_a21 ut_a22 ut_a52 ut_a53 ut_a54 ut_a55 8 100 0 0 wa gi lo tu 8 3).1) = 6 := (ob_current (by decide) ut_e114 ut_e120 wa gi lo tu uZ uZ uZ uZ).trans (by decide +kernel)
theorem ut_e122 : (X0_current_T 8 8 4) = 0 := by decide +kernel
theorem ut_e123 (wa gi lo tu : AR) : ((X0_current ut_a21 ut_a22 ut_a52 ut_a53 ut_a54 ut_a55 8 100 0 0 wa gi lo tu 8 4).1) = 5 := (ob_current (by decide) ut_e114 ut_e122 wa gi lo tu uZ uZ uZ uZ).trans (by decide +kernel)
theorem ut_e124 : (X0_current_T 8 8 5) = 0 := by decide +kernel
theorem ut_e125 (wa gi lo tu : AR) : ((X0_current ut_a21 ut_a22 ut_a52 ut_a53 ut_a54 ut_a55 8 100 0 0 wa gi lo tu 8 5).1) = 4 := (ob_current (by decide) ut_e114 ut_e124 wa gi lo tu uZ uZ uZ uZ).trans (by decide +kernel)
theorem ut_e126 : (X0_current_T 8 8 6) = 0 := by decide +kernel
theorem ut_e127 (wa gi lo tu : AR) : ((X0_current ut_a21 ut_a22 ut_a52 ut_a53 ut_a54 ut_a55 8 100 0 0 wa gi lo tu 8 6).1) = 0 := (ob_current (by decide) ut_e114 ut_e126 wa gi lo tu uZ uZ uZ uZ).trans (by decide +kernel)
theorem ut_e128 : (X0_current_T 8 8 7) = 0 := by decide +kernel
theorem ut_e129 (wa gi lo tu : AR) : ((X0_current ut_a21 ut_a22 ut_a52 ut_a53 ut_a54 ut_a55 8 100 0 0 wa gi lo tu 8 7).1) = 0 := (ob_current (by decide) ut_e114 ut_e128 wa gi lo tu uZ uZ uZ uZ).trans (by decide +kernel)
theorem ut_e130 (wa gi lo tu : AR) : ((X0_held ut_a21 ut_a22 ut_a52 ut_a53 ut_a54 ut_a55 100 0 0 wa gi lo tu 8).1) = 248 := (ob_held (by decide) ut_e114 wa gi lo tu uZ uZ uZ uZ).trans (by decide +kernel)
theorem ut_e131 : (X0_reach_T 8 8 4) = 0 := by decide +kernel
theorem ut_e132 : (X0_reach ut_a21 ut_a22 ut_a52 ut_a53 ut_a54 8 0 8 4) = 10 := by decide +kernel
theorem ut_e133 : (X0_fairLevel_T 8 0) = 0 := by decide +kernel
theorem ut_e134 (wa gi lo tu : AR) : ((X0_fairLevel ut_a21 ut_a22 ut_a52 ut_a53 ut_a54 ut_a55 100 0 0 wa gi lo tu 8 0).1) = 4000 := (ob_fairLevel (by decide) ut_e114 ut_e133 wa gi lo tu uZ uZ uZ uZ).trans (by decide +kernel)
theorem ut_e135 : (X0_fairLevel_T 8 1) = 0 := by decide +kernel
theorem ut_e136 (wa gi lo tu : AR) : ((X0_fairLevel ut_a21 ut_a22 ut_a52 ut_a53 ut_a54 ut_a55 100 0 0 wa gi lo tu 8 1).1) = 4000 := (ob_fairLevel (by decide) ut_e114 ut_e135 wa gi lo tu uZ uZ uZ uZ).trans (by decide +kernel)
theorem ut_e137 : (X0_fairLevel_T 8 2) = 0 := by decide +kernel
theorem ut_e138 (wa gi lo tu : AR) : ((X0_fairLevel ut_a21 ut_a22 ut_a52 ut_a53 ut_a54 ut_a55 100 0 0 wa gi lo tu 8 2).1) = 6000 := (ob_fairLevel (by decide) ut_e114 ut_e137 wa gi lo tu uZ uZ uZ uZ).trans (by decide +kernel)
theorem ut_e139 : (X0_rule_T 1) = 0 := by decide +kernel
theorem ut_e140 : ((X0_rule 0 1).1) = 0 := by decide +kernel
theorem ut_e141 : ((X0_rule 0 1).2) = 1 := by decide +kernel
theorem ut_e142 : (X0_current_T 8 8 0) = 0 := by decide +kernel
theorem ut_e143 : Iv 100 8 ut_a21 ut_a22 ut_a52 ut_a53 ut_a54 ut_a55 8 100 1 0 := by unfold Iv; decide +kernel
theorem ut_e144 (wa gi lo tu : AR) : ((X0_current ut_a21 ut_a22 ut_a52 ut_a53 ut_a54 ut_a55 8 100 1 0 wa gi lo tu 8 0).1) = 4 := (ob_current (by decide) ut_e143 ut_e142 wa gi lo tu uZ uZ uZ uZ).trans (by decide +kernel)
theorem ut_e145 : (X0_current_T 8 8 1) = 0 := by decide +kernel
theorem ut_e146 (wa gi lo tu : AR) : ((X0_current ut_a21 ut_a22 ut_a52 ut_a53 ut_a54 ut_a55 8 100 1 0 wa gi lo tu 8 1).1) = 4 := (ob_current (by decide) ut_e143 ut_e145 wa gi lo tu uZ uZ uZ uZ).trans (by decide +kernel)
theorem ut_e147 : (X0_current_T 8 8 2) = 0 := by decide +kernel
theorem ut_e148 (wa gi lo tu : AR) : ((X0_current ut_a21 ut_a22 ut_a52 ut_a53 ut_a54 ut_a55 8 100 1 0 wa gi lo tu 8 2).1) = 6 := (ob_current (by decide) ut_e143 ut_e147 wa gi lo tu uZ uZ uZ uZ).trans (by decide +kernel)
theorem ut_e149 : (X0_current_T 8 8 3) = 0 := by decide +kernel
theorem ut_e150 (wa gi lo tu : AR) : ((X0_current ut_a21 ut_a22 ut_a52 ut_a53 ut_a54 ut_a55 8 100 1 0 wa gi lo tu 8 3).1) = 4 := (ob_current (by decide) ut_e143 ut_e149 wa gi lo tu uZ uZ uZ uZ).trans (by decide +kernel)
theorem ut_e151 : (X0_current_T 8 8 7) = 0 := by decide +kernel
theorem ut_e152 (wa gi lo tu : AR) : ((X0_current ut_a21 ut_a22 ut_a52 ut_a53 ut_a54 ut_a55 8 100 1 0 wa gi lo tu 8 7).1) = 4 := (ob_current (by decide) ut_e143 ut_e151 wa gi lo tu uZ uZ uZ uZ).trans (by decide +kernel)
theorem ut_e153 : (X0_load_T 8 0) = 0 := by decide +kernel
theorem ut_e154 (wa gi lo tu : AR) : ((X0_load ut_a21 ut_a22 ut_a52 ut_a53 ut_a54 ut_a55 100 1 0 wa gi lo tu 8 0).1) = 12 := (ob_load (by decide) ut_e143 ut_e153 wa gi lo tu uZ uZ uZ uZ).trans (by decide +kernel)
theorem ut_e155 : (X0_load_T 8 1) = 0 := by decide +kernel
theorem ut_e156 (wa gi lo tu : AR) : ((X0_load ut_a21 ut_a22 ut_a52 ut_a53 ut_a54 ut_a55 100 1 0 wa gi lo tu 8 1).1) = 12 := (ob_load (by decide) ut_e143 ut_e155 wa gi lo tu uZ uZ uZ uZ).trans (by decide +kernel)
theorem ut_e157 : (X0_load_T 8 2) = 0 := by decide +kernel
theorem ut_e158 (wa gi lo tu : AR) : ((X0_load ut_a21 ut_a22 ut_a52 ut_a53 ut_a54 ut_a55 100 1 0 wa gi lo tu 8 2).1) = 12 := (ob_load (by decide) ut_e143 ut_e157 wa gi lo tu uZ uZ uZ uZ).trans (by decide +kernel)
theorem ut_e159 (wa gi lo tu : AR) : ((X0_imbalance ut_a21 ut_a22 ut_a52 ut_a53 ut_a54 ut_a55 100 1 0 wa gi lo tu 8).1) = 0 := (ob_imbalance (by decide) ut_e143 wa gi lo tu uZ uZ uZ uZ).trans (by decide +kernel)
theorem ut_e160 : (X0_balance_T 0) = 0 := by decide +kernel
theorem ut_e161 : ((X0_balance 100 0).1) = 100 := by decide +kernel
theorem ut_e162 : ((X0_balance 100 0).2) = 0 := by decide +kernel
theorem ut_e163 : (X0_load_T 8 0) = 0 := by decide +kernel
theorem ut_e164 : Iv 100 8 ut_a21 ut_a22 ut_a52 ut_a53 ut_a54 ut_a55 8 0 1 0 := by unfold Iv; decide +kernel
theorem ut_e165 (wa gi lo tu : AR) : ((X0_load ut_a21 ut_a22 ut_a52 ut_a53 ut_a54 ut_a55 0 1 0 wa gi lo tu 8 0).1) = 12 := (ob_load (by decide) ut_e164 ut_e163 wa gi lo tu uZ uZ uZ uZ).trans (by decide +kernel)
theorem ut_e166 : (X0_load_T 8 1) = 0 := by decide +kernel
theorem ut_e167 (wa gi lo tu : AR) : ((X0_load ut_a21 ut_a22 ut_a52 ut_a53 ut_a54 ut_a55 0 1 0 wa gi lo tu 8 1).1) = 12 := (ob_load (by decide) ut_e164 ut_e166 wa gi lo tu uZ uZ uZ uZ).trans (by decide +kernel)
theorem ut_e168 : (X0_load_T 8 2) = 0 := by decide +kernel
theorem ut_e169 (wa gi lo tu : AR) : ((X0_load ut_a21 ut_a22 ut_a52 ut_a53 ut_a54 ut_a55 0 1 0 wa gi lo tu 8 2).1) = 12 := (ob_load (by decide) ut_e164 ut_e168 wa gi lo tu uZ uZ uZ uZ).trans (by decide +kernel)
theorem ut_e170 (wa gi lo tu : AR) : ((X0_imbalance ut_a21 ut_a22 ut_a52 ut_a53 ut_a54 ut_a55 0 1 0 wa gi lo tu 8).1) = 0 := (ob_imbalance (by decide) ut_e164 wa gi lo tu uZ uZ uZ uZ).trans (by decide +kernel)
theorem ut_e171 : (X0_fuse_T 2 11) = 0 := by decide +kernel
theorem ut_e172 : ((X0_fuse ut_a55 2 11).1) = 12 := by decide +kernel
def ut_a56 : AR := upd ut_a55 (2 : Int32).toNatClampNeg 11
theorem ut_e173 : ((X0_fuse ut_a55 2 11).2) = ut_a56 := by rw [X0_fuse_eq ut_e171]; try rfl
theorem ut_e174 : (X0_load_T 8 0) = 0 := by decide +kernel
theorem ut_e175 : Iv 100 8 ut_a21 ut_a22 ut_a52 ut_a53 ut_a54 ut_a56 8 0 1 0 := by unfold Iv; decide +kernel
theorem ut_e176 (wa gi lo tu : AR) : ((X0_load ut_a21 ut_a22 ut_a52 ut_a53 ut_a54 ut_a56 0 1 0 wa gi lo tu 8 0).1) = 11 := (ob_load (by decide) ut_e175 ut_e174 wa gi lo tu uZ uZ uZ uZ).trans (by decide +kernel)
theorem ut_e177 : (X0_load_T 8 1) = 0 := by decide +kernel
theorem ut_e178 (wa gi lo tu : AR) : ((X0_load ut_a21 ut_a22 ut_a52 ut_a53 ut_a54 ut_a56 0 1 0 wa gi lo tu 8 1).1) = 11 := (ob_load (by decide) ut_e175 ut_e177 wa gi lo tu uZ uZ uZ uZ).trans (by decide +kernel)
theorem ut_e179 : (X0_load_T 8 2) = 0 := by decide +kernel
theorem ut_e180 (wa gi lo tu : AR) : ((X0_load ut_a21 ut_a22 ut_a52 ut_a53 ut_a54 ut_a56 0 1 0 wa gi lo tu 8 2).1) = 11 := (ob_load (by decide) ut_e175 ut_e179 wa gi lo tu uZ uZ uZ uZ).trans (by decide +kernel)
theorem ut_e181 (wa gi lo tu : AR) : ((X0_imbalance ut_a21 ut_a22 ut_a52 ut_a53 ut_a54 ut_a56 0 1 0 wa gi lo tu 8).1) = 0 := (ob_imbalance (by decide) ut_e175 wa gi lo tu uZ uZ uZ uZ).trans (by decide +kernel)
theorem ut_e182 : (X0_current_T 8 8 0) = 0 := by decide +kernel
theorem ut_e183 (wa gi lo tu : AR) : ((X0_current ut_a21 ut_a22 ut_a52 ut_a53 ut_a54 ut_a56 8 0 1 0 wa gi lo tu 8 0).1) = 4 := (ob_current (by decide) ut_e175 ut_e182 wa gi lo tu uZ uZ uZ uZ).trans (by decide +kernel)
theorem ut_e184 : (X0_current_T 8 8 3) = 0 := by decide +kernel
theorem ut_e185 (wa gi lo tu : AR) : ((X0_current ut_a21 ut_a22 ut_a52 ut_a53 ut_a54 ut_a56 8 0 1 0 wa gi lo tu 8 3).1) = 4 := (ob_current (by decide) ut_e175 ut_e184 wa gi lo tu uZ uZ uZ uZ).trans (by decide +kernel)
theorem ut_e186 : (X0_current_T 8 8 6) = 0 := by decide +kernel
theorem ut_e187 (wa gi lo tu : AR) : ((X0_current ut_a21 ut_a22 ut_a52 ut_a53 ut_a54 ut_a56 8 0 1 0 wa gi lo tu 8 6).1) = 3 := (ob_current (by decide) ut_e175 ut_e186 wa gi lo tu uZ uZ uZ uZ).trans (by decide +kernel)
