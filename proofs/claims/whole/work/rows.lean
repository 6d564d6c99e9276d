section
-- ===== PART A: goes FIRST, ahead of the names: the tables' words, and 'selects' of the private methods out of them =====
/-- a private method of a class that the tables say can be made, by its rows of tables_1 -/
def lw_okq (q : MethodName × Nat) : Prop := (q.1.cls ≠ "java/lang/invoke/MethodHandle" ∧ q.1.cls ≠ "java/lang/invoke/VarHandle") ∧ Cond.instantiable q.1.cls q.2 ∈ tables_1 ∧ Cond.privateMethod q.1 ∈ tables_1 ∧ Cond.instanceMethod q.1 ∈ tables_1
theorem lw_p0 : lw_okq (⟨"ChargePark", "shareCurrents", "()V"⟩, 16) := ⟨⟨by decide +kernel, by decide +kernel⟩, List.mem_of_getElem? (i := 11) (by decide +kernel), List.mem_of_getElem? (i := 89) (by decide +kernel), List.mem_of_getElem? (i := 90) (by decide +kernel)⟩
theorem lw_p1 : lw_okq (⟨"ChargePark", "startShares", "()V"⟩, 16) := ⟨⟨by decide +kernel, by decide +kernel⟩, List.mem_of_getElem? (i := 11) (by decide +kernel), List.mem_of_getElem? (i := 93) (by decide +kernel), List.mem_of_getElem? (i := 94) (by decide +kernel)⟩
theorem lw_p2 : lw_okq (⟨"ChargePark", "reachAt", "(I)I"⟩, 16) := ⟨⟨by decide +kernel, by decide +kernel⟩, List.mem_of_getElem? (i := 11) (by decide +kernel), List.mem_of_getElem? (i := 97) (by decide +kernel), List.mem_of_getElem? (i := 98) (by decide +kernel)⟩
theorem lw_p3 : lw_okq (⟨"ChargePark", "isToBeGiven", "(I)Z"⟩, 16) := ⟨⟨by decide +kernel, by decide +kernel⟩, List.mem_of_getElem? (i := 11) (by decide +kernel), List.mem_of_getElem? (i := 101) (by decide +kernel), List.mem_of_getElem? (i := 102) (by decide +kernel)⟩
theorem lw_p4 : lw_okq (⟨"ChargePark", "unitsPerAmpere", "(I)I"⟩, 16) := ⟨⟨by decide +kernel, by decide +kernel⟩, List.mem_of_getElem? (i := 11) (by decide +kernel), List.mem_of_getElem? (i := 105) (by decide +kernel), List.mem_of_getElem? (i := 106) (by decide +kernel)⟩
theorem lw_p5 : lw_okq (⟨"ChargePark", "lesserOfGreatestAndAppetite", "(I)I"⟩, 16) := ⟨⟨by decide +kernel, by decide +kernel⟩, List.mem_of_getElem? (i := 11) (by decide +kernel), List.mem_of_getElem? (i := 112) (by decide +kernel), List.mem_of_getElem? (i := 113) (by decide +kernel)⟩
theorem lw_p6 : lw_okq (⟨"ChargePark", "shareFairly", "()V"⟩, 16) := ⟨⟨by decide +kernel, by decide +kernel⟩, List.mem_of_getElem? (i := 11) (by decide +kernel), List.mem_of_getElem? (i := 119) (by decide +kernel), List.mem_of_getElem? (i := 120) (by decide +kernel)⟩
theorem lw_p7 : lw_okq (⟨"ChargePark", "raiseAll", "()Z"⟩, 16) := ⟨⟨by decide +kernel, by decide +kernel⟩, List.mem_of_getElem? (i := 11) (by decide +kernel), List.mem_of_getElem? (i := 123) (by decide +kernel), List.mem_of_getElem? (i := 124) (by decide +kernel)⟩
theorem lw_p8 : lw_okq (⟨"ChargePark", "roomFor", "(I)I"⟩, 16) := ⟨⟨by decide +kernel, by decide +kernel⟩, List.mem_of_getElem? (i := 11) (by decide +kernel), List.mem_of_getElem? (i := 127) (by decide +kernel), List.mem_of_getElem? (i := 128) (by decide +kernel)⟩
theorem lw_p9 : lw_okq (⟨"ChargePark", "isAt", "(II)Z"⟩, 16) := ⟨⟨by decide +kernel, by decide +kernel⟩, List.mem_of_getElem? (i := 11) (by decide +kernel), List.mem_of_getElem? (i := 131) (by decide +kernel), List.mem_of_getElem? (i := 132) (by decide +kernel)⟩
theorem lw_p10 : lw_okq (⟨"ChargePark", "give", "(II)V"⟩, 16) := ⟨⟨by decide +kernel, by decide +kernel⟩, List.mem_of_getElem? (i := 11) (by decide +kernel), List.mem_of_getElem? (i := 135) (by decide +kernel), List.mem_of_getElem? (i := 136) (by decide +kernel)⟩
theorem lw_p11 : lw_okq (⟨"ChargePark", "shareByLaxity", "()V"⟩, 16) := ⟨⟨by decide +kernel, by decide +kernel⟩, List.mem_of_getElem? (i := 11) (by decide +kernel), List.mem_of_getElem? (i := 139) (by decide +kernel), List.mem_of_getElem? (i := 140) (by decide +kernel)⟩
theorem lw_p12 : lw_okq (⟨"ChargePark", "putIntoTurns", "(II)V"⟩, 16) := ⟨⟨by decide +kernel, by decide +kernel⟩, List.mem_of_getElem? (i := 11) (by decide +kernel), List.mem_of_getElem? (i := 143) (by decide +kernel), List.mem_of_getElem? (i := 144) (by decide +kernel)⟩
theorem lw_p13 : lw_okq (⟨"ChargePark", "laxityAt", "(I)I"⟩, 16) := ⟨⟨by decide +kernel, by decide +kernel⟩, List.mem_of_getElem? (i := 11) (by decide +kernel), List.mem_of_getElem? (i := 147) (by decide +kernel), List.mem_of_getElem? (i := 148) (by decide +kernel)⟩
theorem lw_p14 : lw_okq (⟨"ChargePark", "stepsLeftAt", "(I)I"⟩, 16) := ⟨⟨by decide +kernel, by decide +kernel⟩, List.mem_of_getElem? (i := 11) (by decide +kernel), List.mem_of_getElem? (i := 151) (by decide +kernel), List.mem_of_getElem? (i := 152) (by decide +kernel)⟩
theorem lw_p15 : lw_okq (⟨"ChargePark", "keepBalance", "()V"⟩, 16) := ⟨⟨by decide +kernel, by decide +kernel⟩, List.mem_of_getElem? (i := 11) (by decide +kernel), List.mem_of_getElem? (i := 158) (by decide +kernel), List.mem_of_getElem? (i := 159) (by decide +kernel)⟩
def lw_privs_1 : List (MethodName × Nat) := [(⟨"ChargePark", "shareCurrents", "()V"⟩, 16), (⟨"ChargePark", "startShares", "()V"⟩, 16), (⟨"ChargePark", "reachAt", "(I)I"⟩, 16), (⟨"ChargePark", "isToBeGiven", "(I)Z"⟩, 16), (⟨"ChargePark", "unitsPerAmpere", "(I)I"⟩, 16), (⟨"ChargePark", "lesserOfGreatestAndAppetite", "(I)I"⟩, 16), (⟨"ChargePark", "shareFairly", "()V"⟩, 16), (⟨"ChargePark", "raiseAll", "()Z"⟩, 16), (⟨"ChargePark", "roomFor", "(I)I"⟩, 16), (⟨"ChargePark", "isAt", "(II)Z"⟩, 16), (⟨"ChargePark", "give", "(II)V"⟩, 16), (⟨"ChargePark", "shareByLaxity", "()V"⟩, 16), (⟨"ChargePark", "putIntoTurns", "(II)V"⟩, 16), (⟨"ChargePark", "laxityAt", "(I)I"⟩, 16), (⟨"ChargePark", "stepsLeftAt", "(I)I"⟩, 16), (⟨"ChargePark", "keepBalance", "()V"⟩, 16)]
theorem lw_r1 : ∀ q ∈ lw_privs_1, lw_okq q := List.forall_mem_cons.mpr ⟨lw_p0, List.forall_mem_cons.mpr ⟨lw_p1, List.forall_mem_cons.mpr ⟨lw_p2, List.forall_mem_cons.mpr ⟨lw_p3, List.forall_mem_cons.mpr ⟨lw_p4, List.forall_mem_cons.mpr ⟨lw_p5, List.forall_mem_cons.mpr ⟨lw_p6, List.forall_mem_cons.mpr ⟨lw_p7, List.forall_mem_cons.mpr ⟨lw_p8, List.forall_mem_cons.mpr ⟨lw_p9, List.forall_mem_cons.mpr ⟨lw_p10, List.forall_mem_cons.mpr ⟨lw_p11, List.forall_mem_cons.mpr ⟨lw_p12, List.forall_mem_cons.mpr ⟨lw_p13, List.forall_mem_cons.mpr ⟨lw_p14, List.forall_mem_cons.mpr ⟨lw_p15, fun _ h => absurd h List.not_mem_nil⟩⟩⟩⟩⟩⟩⟩⟩⟩⟩⟩⟩⟩⟩⟩⟩
theorem lw_p16 : lw_okq (⟨"ChargePark", "differenceOfLoads", "()I"⟩, 16) := ⟨⟨by decide +kernel, by decide +kernel⟩, List.mem_of_getElem? (i := 11) (by decide +kernel), List.mem_of_getElem? (i := 162) (by decide +kernel), List.mem_of_getElem? (i := 163) (by decide +kernel)⟩
theorem lw_p17 : lw_okq (⟨"ChargePark", "phaseOfGreatestLoad", "()I"⟩, 16) := ⟨⟨by decide +kernel, by decide +kernel⟩, List.mem_of_getElem? (i := 11) (by decide +kernel), List.mem_of_getElem? (i := 166) (by decide +kernel), List.mem_of_getElem? (i := 167) (by decide +kernel)⟩
theorem lw_p18 : lw_okq (⟨"ChargePark", "mostGivenAloneAt", "(I)I"⟩, 16) := ⟨⟨by decide +kernel, by decide +kernel⟩, List.mem_of_getElem? (i := 11) (by decide +kernel), List.mem_of_getElem? (i := 170) (by decide +kernel), List.mem_of_getElem? (i := 171) (by decide +kernel)⟩
theorem lw_p19 : lw_okq (⟨"java/lang/Throwable", "fillInStackTrace", "(I)Ljava/lang/Throwable;"⟩, 6) := ⟨⟨by decide +kernel, by decide +kernel⟩, List.mem_of_getElem? (i := 232) (by decide +kernel), List.mem_of_getElem? (i := 230) (by decide +kernel), List.mem_of_getElem? (i := 231) (by decide +kernel)⟩
theorem lw_p20 : lw_okq (⟨"ChargePark", "requirePoint", "(I)V"⟩, 16) := ⟨⟨by decide +kernel, by decide +kernel⟩, List.mem_of_getElem? (i := 11) (by decide +kernel), List.mem_of_getElem? (i := 311) (by decide +kernel), List.mem_of_getElem? (i := 312) (by decide +kernel)⟩
theorem lw_p21 : lw_okq (⟨"ChargePark", "hasCar", "(I)Z"⟩, 16) := ⟨⟨by decide +kernel, by decide +kernel⟩, List.mem_of_getElem? (i := 11) (by decide +kernel), List.mem_of_getElem? (i := 331) (by decide +kernel), List.mem_of_getElem? (i := 332) (by decide +kernel)⟩
theorem lw_p22 : lw_okq (⟨"ChargePark", "requireCar", "(I)V"⟩, 16) := ⟨⟨by decide +kernel, by decide +kernel⟩, List.mem_of_getElem? (i := 11) (by decide +kernel), List.mem_of_getElem? (i := 343) (by decide +kernel), List.mem_of_getElem? (i := 344) (by decide +kernel)⟩
theorem lw_p23 : lw_okq (⟨"ChargePark", "takeWhatIsGiven", "()V"⟩, 16) := ⟨⟨by decide +kernel, by decide +kernel⟩, List.mem_of_getElem? (i := 11) (by decide +kernel), List.mem_of_getElem? (i := 369) (by decide +kernel), List.mem_of_getElem? (i := 370) (by decide +kernel)⟩
theorem lw_p24 : lw_okq (⟨"ChargePark", "givenAtAllPhases", "()I"⟩, 16) := ⟨⟨by decide +kernel, by decide +kernel⟩, List.mem_of_getElem? (i := 11) (by decide +kernel), List.mem_of_getElem? (i := 422) (by decide +kernel), List.mem_of_getElem? (i := 423) (by decide +kernel)⟩
theorem lw_p25 : lw_okq (⟨"ChargePark", "usedAtLevel", "(II)I"⟩, 16) := ⟨⟨by decide +kernel, by decide +kernel⟩, List.mem_of_getElem? (i := 11) (by decide +kernel), List.mem_of_getElem? (i := 426) (by decide +kernel), List.mem_of_getElem? (i := 427) (by decide +kernel)⟩
theorem lw_p26 : lw_okq (⟨"ChargeParkModel", "isPoint", "(I)Z"⟩, 16) := ⟨⟨by decide +kernel, by decide +kernel⟩, List.mem_of_getElem? (i := 430) (by decide +kernel), List.mem_of_getElem? (i := 513) (by decide +kernel), List.mem_of_getElem? (i := 514) (by decide +kernel)⟩
theorem lw_p27 : lw_okq (⟨"ChargeParkModel", "lax", "(I)I"⟩, 16) := ⟨⟨by decide +kernel, by decide +kernel⟩, List.mem_of_getElem? (i := 430) (by decide +kernel), List.mem_of_getElem? (i := 517) (by decide +kernel), List.mem_of_getElem? (i := 518) (by decide +kernel)⟩
theorem lw_p28 : lw_okq (⟨"ChargeParkModel", "stepsLeft", "(I)I"⟩, 16) := ⟨⟨by decide +kernel, by decide +kernel⟩, List.mem_of_getElem? (i := 430) (by decide +kernel), List.mem_of_getElem? (i := 521) (by decide +kernel), List.mem_of_getElem? (i := 522) (by decide +kernel)⟩
theorem lw_p29 : lw_okq (⟨"ChargeParkModel", "most", "(I)I"⟩, 16) := ⟨⟨by decide +kernel, by decide +kernel⟩, List.mem_of_getElem? (i := 430) (by decide +kernel), List.mem_of_getElem? (i := 525) (by decide +kernel), List.mem_of_getElem? (i := 526) (by decide +kernel)⟩
theorem lw_p30 : lw_okq (⟨"ChargeParkModel", "times", "(I)I"⟩, 16) := ⟨⟨by decide +kernel, by decide +kernel⟩, List.mem_of_getElem? (i := 430) (by decide +kernel), List.mem_of_getElem? (i := 529) (by decide +kernel), List.mem_of_getElem? (i := 530) (by decide +kernel)⟩
theorem lw_p31 : lw_okq (⟨"ChargeParkModel", "shares", "()V"⟩, 16) := ⟨⟨by decide +kernel, by decide +kernel⟩, List.mem_of_getElem? (i := 430) (by decide +kernel), List.mem_of_getElem? (i := 552) (by decide +kernel), List.mem_of_getElem? (i := 553) (by decide +kernel)⟩
def lw_privs_2 : List (MethodName × Nat) := [(⟨"ChargePark", "differenceOfLoads", "()I"⟩, 16), (⟨"ChargePark", "phaseOfGreatestLoad", "()I"⟩, 16), (⟨"ChargePark", "mostGivenAloneAt", "(I)I"⟩, 16), (⟨"java/lang/Throwable", "fillInStackTrace", "(I)Ljava/lang/Throwable;"⟩, 6), (⟨"ChargePark", "requirePoint", "(I)V"⟩, 16), (⟨"ChargePark", "hasCar", "(I)Z"⟩, 16), (⟨"ChargePark", "requireCar", "(I)V"⟩, 16), (⟨"ChargePark", "takeWhatIsGiven", "()V"⟩, 16), (⟨"ChargePark", "givenAtAllPhases", "()I"⟩, 16), (⟨"ChargePark", "usedAtLevel", "(II)I"⟩, 16), (⟨"ChargeParkModel", "isPoint", "(I)Z"⟩, 16), (⟨"ChargeParkModel", "lax", "(I)I"⟩, 16), (⟨"ChargeParkModel", "stepsLeft", "(I)I"⟩, 16), (⟨"ChargeParkModel", "most", "(I)I"⟩, 16), (⟨"ChargeParkModel", "times", "(I)I"⟩, 16), (⟨"ChargeParkModel", "shares", "()V"⟩, 16)]
theorem lw_r2 : ∀ q ∈ lw_privs_2, lw_okq q := List.forall_mem_cons.mpr ⟨lw_p16, List.forall_mem_cons.mpr ⟨lw_p17, List.forall_mem_cons.mpr ⟨lw_p18, List.forall_mem_cons.mpr ⟨lw_p19, List.forall_mem_cons.mpr ⟨lw_p20, List.forall_mem_cons.mpr ⟨lw_p21, List.forall_mem_cons.mpr ⟨lw_p22, List.forall_mem_cons.mpr ⟨lw_p23, List.forall_mem_cons.mpr ⟨lw_p24, List.forall_mem_cons.mpr ⟨lw_p25, List.forall_mem_cons.mpr ⟨lw_p26, List.forall_mem_cons.mpr ⟨lw_p27, List.forall_mem_cons.mpr ⟨lw_p28, List.forall_mem_cons.mpr ⟨lw_p29, List.forall_mem_cons.mpr ⟨lw_p30, List.forall_mem_cons.mpr ⟨lw_p31, fun _ h => absurd h List.not_mem_nil⟩⟩⟩⟩⟩⟩⟩⟩⟩⟩⟩⟩⟩⟩⟩⟩
theorem lw_p32 : lw_okq (⟨"ChargeParkModel", "byLaxity", "()V"⟩, 16) := ⟨⟨by decide +kernel, by decide +kernel⟩, List.mem_of_getElem? (i := 430) (by decide +kernel), List.mem_of_getElem? (i := 556) (by decide +kernel), List.mem_of_getElem? (i := 557) (by decide +kernel)⟩
theorem lw_p33 : lw_okq (⟨"ChargeParkModel", "reaches", "(I)I"⟩, 16) := ⟨⟨by decide +kernel, by decide +kernel⟩, List.mem_of_getElem? (i := 430) (by decide +kernel), List.mem_of_getElem? (i := 560) (by decide +kernel), List.mem_of_getElem? (i := 561) (by decide +kernel)⟩
theorem lw_p34 : lw_okq (⟨"ChargeParkModel", "ahead", "(I)I"⟩, 16) := ⟨⟨by decide +kernel, by decide +kernel⟩, List.mem_of_getElem? (i := 430) (by decide +kernel), List.mem_of_getElem? (i := 564) (by decide +kernel), List.mem_of_getElem? (i := 565) (by decide +kernel)⟩
theorem lw_p35 : lw_okq (⟨"ChargeParkModel", "room", "(I)I"⟩, 16) := ⟨⟨by decide +kernel, by decide +kernel⟩, List.mem_of_getElem? (i := 430) (by decide +kernel), List.mem_of_getElem? (i := 568) (by decide +kernel), List.mem_of_getElem? (i := 569) (by decide +kernel)⟩
theorem lw_p36 : lw_okq (⟨"ChargeParkModel", "flows", "(I)I"⟩, 16) := ⟨⟨by decide +kernel, by decide +kernel⟩, List.mem_of_getElem? (i := 430) (by decide +kernel), List.mem_of_getElem? (i := 572) (by decide +kernel), List.mem_of_getElem? (i := 573) (by decide +kernel)⟩
theorem lw_p37 : lw_okq (⟨"ChargeParkModel", "fairly", "()V"⟩, 16) := ⟨⟨by decide +kernel, by decide +kernel⟩, List.mem_of_getElem? (i := 430) (by decide +kernel), List.mem_of_getElem? (i := 576) (by decide +kernel), List.mem_of_getElem? (i := 577) (by decide +kernel)⟩
theorem lw_p38 : lw_okq (⟨"ChargeParkModel", "apart", "()I"⟩, 16) := ⟨⟨by decide +kernel, by decide +kernel⟩, List.mem_of_getElem? (i := 430) (by decide +kernel), List.mem_of_getElem? (i := 580) (by decide +kernel), List.mem_of_getElem? (i := 581) (by decide +kernel)⟩
theorem lw_p39 : lw_okq (⟨"ChargeParkModel", "high", "()I"⟩, 16) := ⟨⟨by decide +kernel, by decide +kernel⟩, List.mem_of_getElem? (i := 430) (by decide +kernel), List.mem_of_getElem? (i := 584) (by decide +kernel), List.mem_of_getElem? (i := 585) (by decide +kernel)⟩
theorem lw_p40 : lw_okq (⟨"ChargeParkModel", "giver", "(I)I"⟩, 16) := ⟨⟨by decide +kernel, by decide +kernel⟩, List.mem_of_getElem? (i := 430) (by decide +kernel), List.mem_of_getElem? (i := 588) (by decide +kernel), List.mem_of_getElem? (i := 589) (by decide +kernel)⟩
def lw_privs_3 : List (MethodName × Nat) := [(⟨"ChargeParkModel", "byLaxity", "()V"⟩, 16), (⟨"ChargeParkModel", "reaches", "(I)I"⟩, 16), (⟨"ChargeParkModel", "ahead", "(I)I"⟩, 16), (⟨"ChargeParkModel", "room", "(I)I"⟩, 16), (⟨"ChargeParkModel", "flows", "(I)I"⟩, 16), (⟨"ChargeParkModel", "fairly", "()V"⟩, 16), (⟨"ChargeParkModel", "apart", "()I"⟩, 16), (⟨"ChargeParkModel", "high", "()I"⟩, 16), (⟨"ChargeParkModel", "giver", "(I)I"⟩, 16)]
theorem lw_r3 : ∀ q ∈ lw_privs_3, lw_okq q := List.forall_mem_cons.mpr ⟨lw_p32, List.forall_mem_cons.mpr ⟨lw_p33, List.forall_mem_cons.mpr ⟨lw_p34, List.forall_mem_cons.mpr ⟨lw_p35, List.forall_mem_cons.mpr ⟨lw_p36, List.forall_mem_cons.mpr ⟨lw_p37, List.forall_mem_cons.mpr ⟨lw_p38, List.forall_mem_cons.mpr ⟨lw_p39, List.forall_mem_cons.mpr ⟨lw_p40, fun _ h => absurd h List.not_mem_nil⟩⟩⟩⟩⟩⟩⟩⟩⟩
def lw_privs : List (MethodName × Nat) := lw_privs_1 ++ (lw_privs_2 ++ (lw_privs_3))
def lw_tbl : List Cond := k2_sels lw_privs ++ tables_1
theorem lw_privs_ok : ∀ q ∈ lw_privs, lw_okq q := by
  show ∀ q ∈ lw_privs_1 ++ (lw_privs_2 ++ (lw_privs_3)), lw_okq q
  exact List.forall_mem_append.mpr ⟨lw_r1, List.forall_mem_append.mpr ⟨lw_r2, lw_r3⟩⟩
end
section
/-! ===== BEGIN words of one list among another's, by their places ===== -/
theorem goodIn_r {big : List Cond} (ws : List Cond) (ps : List Nat) (hp : ws = ps.filterMap (fun i => big[i]?)) (h : ws.all goodWord = true) : GoodIn big ws := by
  intro w hw
  have h1 := List.all_eq_true.mp h w hw
  rw [hp] at hw
  obtain ⟨i, -, hi⟩ := List.mem_filterMap.mp hw
  have hm : w ∈ big := by first | exact List.mem_of_getElem? hi | exact List.getElem?_mem hi
  exact ⟨hm, good_of_word h1⟩
theorem goodIn_app {big a b : List Cond} (ha : GoodIn big a) (hb : GoodIn big b) : GoodIn big (a ++ b) := fun w h => (List.mem_append.mp h).elim (ha w) (hb w)
theorem goodIn_ca {big a b : List Cond} {c : Cond} (ha : GoodIn big (c :: a)) (hb : GoodIn big b) : GoodIn big (c :: (a ++ b)) := fun w h => (List.mem_cons.mp h).elim (fun e => ha w (List.mem_cons.mpr (Or.inl e))) (fun h => (List.mem_append.mp h).elim (fun h => ha w (List.mem_cons.mpr (Or.inr h))) (hb w))
theorem goodIn_sub {big ws : List Cond} (hm : ∀ w ∈ ws, w ∈ big) (h : ws.all goodWord = true) : GoodIn big ws := fun w hw => ⟨hm w hw, good_of_word (List.all_eq_true.mp h w hw)⟩
/-! ===== END ===== -/

/-! ===== BEGIN exceptions that leave a method, and their catching by the caller (launches without stack traces) ===== -/
section VXA
/-! The laws vx_back, vx_callV, vx_callS, vx_callSW, vx_throw0, vx_throwS follow proofs of the library, with one case more: JvmDerived/Free/Laws.lean (Back.of_free), Shelf42/LK1.lean (callV, callS), Shelf/KitTraced.lean (throwNew0V, throwNewS). -/
/-- where a method has thrown q: the class by its name, the cell, what was written, the world -/
def vx_T (XC : String → State → State → Prop) (st : State) (q : Addr) (t : State) (mc ms : Nat) (free : Addr → Prop) : Prop :=
  ∃ (E : String) (ce : Cell) (L : List Loc), XC E st t ∧ t.heap[q]? = some ce ∧ ce.vm = .none ∧ st.vm.findClass E = some ce.cls ∧ st.WarmedH t.vm ∧ st.sameButNew ({ t with vm := st.vm } : State) L mc ms ∧ ∀ z ∈ L, free z.base
def vx_Q (Qc : Array Value → State → Outcome → State → Prop) (XC : String → State → State → Prop) (mc ms : Nat) (free : Addr → Prop) : Array Value → State → Outcome → State → Prop := fun a st o t =>
  (Qc a st o t ∧ ∃ L, FrameEnd st o t L mc ms ∧ ∀ q ∈ L, free q.base) ∨ ∃ q, o = .threw q ∧ vx_T XC st q t mc ms free
/-- a callee that returns or throws -/
def vx_Met (l : Launch) (y : MethodName) (ws : List Cond) (rm : Room) (Pc : Array Value → State → Prop) (Qc : Array Value → State → Outcome → State → Prop) (XC : String → State → State → Prop) (mc ms : Nat) (free : Addr → Prop) : Prop :=
  MetFree l y (headSpec ws rm) Pc (fun _ _ _ _ _ => True) (vx_Q Qc XC mc ms free)
def vx_Post (XC : String → State → State → Prop) (mc ms : Nat) (free : Addr → Prop) : Pt → Array Value → Addr → Pt → Prop := fun A a q B =>
  ∃ (g : JFrame) (mk : MethodId) (t : State) (L : List Loc) (E : String) (ce : Cell), B.U.heap = t.heap ∧ B.U.vm = t.vm ∧ XC E (A.U.calling g mk a) t ∧ t.heap[q]? = some ce ∧ ce.vm = .none ∧ A.U.vm.findClass E = some ce.cls ∧ B.locs = A.locs ++ L ∧ (∀ z ∈ L, free z.base) ∧ B.cells = A.cells + mc ∧ B.slots = A.slots + ms
def vx_Back (l : Launch) (R : Room) (p : Program) (e : Env) (below : List Frame) (s : State) (sargs : Array Value) (y : MethodName) (len W9 : Nat)
    (Pre : Pt → Array Value → Prop) (Post : Pt → Array Value → Option Value → Pt → Prop) (PostX : Pt → Array Value → Addr → Pt → Prop) : Prop :=
  ∀ (m : MethodId) (meth : Method) (c : Code) (A : Pt) (g : JFrame) (ig : Instr) (mk : MethodId) (a : Array Value),
    Stand p l e R s m sargs below meth c A.U A.locs A.cells A.slots → g.method = m → g.locals.size = c.maxLocals → decode c.code g.pc = .ok (ig, len) →
    2 * g.monitorRoom + (g.stack.map fun v => v.category).sum ≤ W9 → A.U.methodNamed? y = some mk → Pre A a →
    (∃ (v : Option Value) (B : Pt), Stand p l e R s m sargs below meth c B.U B.locs B.cells B.slots ∧ Post A a v B ∧
      Steps p.tables e below (doInvoke e (A.U.setTop g) [] mk a).1 (B.U.setTop { g with pc := g.pc + len, stack := v.toList ++ g.stack })) ∨
    (∃ (q : Addr) (B : Pt), Stand p l e R s m sargs below meth c B.U B.locs B.cells B.slots ∧ PostX A a q B ∧
      Steps p.tables e below (doInvoke e (A.U.setTop g) [] mk a).1 ((B.U.setTop g).pushFrame (.throwing q)))
section Payer
variable {l : Launch} {R : Room} {p : Program} {e : Env} {below : List Frame} {s : State} {sargs : Array Value} {y : MethodName} {len W9 : Nat}
theorem vx_back {ws : List Cond} {rm : Room} {Pc : Array Value → State → Prop} {Qc : Array Value → State → Outcome → State → Prop} {XC : String → State → State → Prop} {mc ms : Nat} {free : Addr → Prop} {bytes : ByteArray} {maxL : Nat} {ret : Option FieldType}
    (hM : vx_Met l y ws rm Pc Qc XC mc ms free) (hblind : FrameBlind Pc) (hrc : rm.cells = mc) (hrs : rm.slots = ms)
    (hframes : rm.frames + 1 ≤ R.frames) (hlocals : W9 + (maxL + 11) + rm.locals ≤ R.locals)
    (hws : ∀ w ∈ ws, ∀ a' U, s.WarmedH U.vm → w.before a' U = true) (hcode : Cond.code y bytes maxL ret ∈ ws) (hinit : ∀ a' U, s.WarmedH U.vm → (Cond.initialized y.cls).before a' U = true) :
    vx_Back l R p e below s sargs y len W9 (PreOf R mc ms Pc) (PostOf Qc mc ms free) (vx_Post XC mc ms free) := by
  intro m meth c A g ig mk a X hg hsize hdg hW hn hp
  have h1 : (headSpec ws rm).pre.before a A.U = true := atoms_intro fun w hw => hws w hw _ _ X.warmed
  have h2 : (Cond.code y bytes maxL ret).before a A.U = true := hws _ hcode _ _ X.warmed
  have h3 : (Cond.initialized y.cls).before a A.U = true := hinit _ _ X.warmed
  have h4 : A.cells + (headSpec ws rm).room.cells ≤ R.cells := by rw [show (headSpec ws rm).room.cells = mc from hrc]; exact hp.1
  have h5 : A.slots + (headSpec ws rm).room.slots ≤ R.slots := by rw [show (headSpec ws rm).room.slots = ms from hrs]; exact hp.2.1
  have hPc : Pc a (A.U.calling g mk a) := hblind _ _ _ _ hp.2.2
  obtain ⟨U, Ls, c0, s0⟩ := A
  dsimp only [Pt.U, Pt.locs, Pt.cells, Pt.slots] at h1 h2 h3 h4 h5 X hn hPc ⊢
  obtain ⟨methY, cY, hmY, hcY, -, hlY, -, -, -, -⟩ := Cond.code_spec hn h2
  obtain ⟨kY, hkY, -⟩ := className_of_methodNamed hn
  have hinitY : kY.init = .initialized := Cond.initialized_spec (findClass_of_methodNamed hn) hkY h3
  have h : At U g.method c below := by rw [hg]; exact X.here
  have hlocals9 : W9 + (maxL + 11) + (headSpec ws rm).room.locals ≤ R.locals := hlocals
  have happ : (headSpec ws rm).appliesLoose y e.platform (U.calling g mk a) = true :=
    Spec.appliesLoose_calling (g := g) h hdg hn hkY hinitY
      (X.room_calling (g := g) (R' := (headSpec ws rm).room) hsize hmY hcY hframes (by rw [hlY]; omega) h4 h5) h1
  obtain ⟨mid, hmid⟩ := h.above
  have hfr : (U.setTop g).frames = (.java g :: mid) ++ below := by rw [State.frames_setTop' g h.top, hmid]; rfl
  obtain ⟨o, s₂, hsteps, -, hend, hq⟩ := Steps.callFree hM p X.admits X.cas X.clock (acts := []) hfr happ hPc trivial
  have hq' : vx_Q Qc XC mc ms free a (U.calling g mk a) o s₂ := hq
  rw [State.frames_setTop' g h.top] at hend
  obtain ⟨g₀, hg0⟩ := Option.isSome_iff_exists.mp h.top
  obtain ⟨r, hr⟩ := State.topJava?_eq_some.mp hg0
  have hr' : (({ U with heap := s₂.heap, slotsUsed := s₂.slotsUsed } : State).setVm s₂.vm).frames = .java g₀ :: r := hr
  rcases hq' with ⟨hqc, L, hfe, hL⟩ | ⟨q, rfl, E, ce, L, hx, hce, hcv, hcl, hW₂, hsm, hL⟩
  · obtain ⟨⟨v, rfl⟩, hW₂, e2, q2, q3, q4, q5, q6⟩ := id hfe
    have e3 : s₂ = ({ (U.calling g mk a).setFrames s₂.frames with heap := s₂.heap, slotsUsed := s₂.slotsUsed } : State).setVm s₂.vm := by
      have : s₂ = ({ s₂ with vm := (U.calling g mk a).vm } : State).setVm s₂.vm := rfl
      rw [e2] at this
      exact this
    obtain ⟨c₂, i₂, len₂, hc₂, hd₂, hf₂⟩ := hend
    have hW' : U.WarmedH s₂.vm := hW₂
    have hcc : c₂ = c := by
      have h1 : s₂.code? g.method = U.code? g.method := by
        rw [State.code?_eq, State.code?_eq, hW'.alike.method?]
      exact Option.some.inj (hc₂.symm.trans (h1.trans h.code))
    subst hcc
    have hlen : len₂ = len := by rw [hdg] at hd₂; cases hd₂; rfl
    subst hlen
    have hs₂ : s₂ = (({ U with heap := s₂.heap, slotsUsed := s₂.slotsUsed } : State).setVm s₂.vm).setTop { g with pc := g.pc + len₂, stack := v.toList ++ g.stack } := by
      refine e3.trans ?_
      rw [hf₂, State.calling_eq h.top, State.setFrames_setFrames, State.setTop_of_frames _ hr', hr]
      rfl
    have hsame : U.sameButNew ({ U with heap := s₂.heap, slotsUsed := s₂.slotsUsed } : State) L mc ms := by
      refine ⟨?_, q2, q3, q4, q5, q6⟩
      obtain ⟨t, ht, -⟩ := State.frames_cons hr
      show ({ U with heap := s₂.heap, slotsUsed := s₂.slotsUsed } : State) = { U.setFrames U.frames with heap := s₂.heap, slotsUsed := s₂.slotsUsed }
      rw [State.setFrames_self ht]
    subst hg
    refine Or.inl ⟨v, ⟨(({ U with heap := s₂.heap, slotsUsed := s₂.slotsUsed } : State).setVm s₂.vm), Ls ++ L, c0 + mc, s0 + ms⟩,
      ⟨X.admits, X.cas, X.clock, X.frames, X.room, X.hears, X.method, X.code, (X.here.setHeapUsed s₂.heap s₂.slotsUsed).setVm hW'.alike, X.tail, State.WarmedH.trans X.warmed hW', X.limits, X.bytes, X.same.trans (hsame.setVm s.vm)⟩,
      ⟨g, mk, s₂, L, rfl, rfl, hqc, rfl, hL, rfl, rfl⟩, ?_⟩
    show Steps p.tables e below _ ((({ U with heap := s₂.heap, slotsUsed := s₂.slotsUsed } : State).setVm s₂.vm).setTop { g with pc := g.pc + len₂, stack := v.toList ++ g.stack })
    rw [← hs₂]
    exact hsteps
  · obtain ⟨e2, q2, q3, q4, q5, q6⟩ := id hsm
    have e3 : s₂ = ({ (U.calling g mk a).setFrames s₂.frames with heap := s₂.heap, slotsUsed := s₂.slotsUsed } : State).setVm s₂.vm := by
      have : s₂ = ({ s₂ with vm := (U.calling g mk a).vm } : State).setVm s₂.vm := rfl
      rw [e2] at this
      exact this
    have hf₂ : s₂.frames = .throwing q :: .java g :: U.frames.tail := hend
    have hW' : U.WarmedH s₂.vm := hW₂
    have hs₂ : s₂ = ((({ U with heap := s₂.heap, slotsUsed := s₂.slotsUsed } : State).setVm s₂.vm).setTop g).pushFrame (.throwing q) := by
      refine e3.trans ?_
      rw [hf₂, State.calling_eq h.top, State.setFrames_setFrames, State.pushFrame, State.frames_setTop _ hr', State.setTop_of_frames _ hr', State.setFrames_setFrames, hr]
      rfl
    have hsame : U.sameButNew ({ U with heap := s₂.heap, slotsUsed := s₂.slotsUsed } : State) L mc ms := by
      refine ⟨?_, q2, q3, q4, q5, q6⟩
      obtain ⟨t, ht, -⟩ := State.frames_cons hr
      show ({ U with heap := s₂.heap, slotsUsed := s₂.slotsUsed } : State) = { U.setFrames U.frames with heap := s₂.heap, slotsUsed := s₂.slotsUsed }
      rw [State.setFrames_self ht]
    subst hg
    refine Or.inr ⟨q, ⟨(({ U with heap := s₂.heap, slotsUsed := s₂.slotsUsed } : State).setVm s₂.vm), Ls ++ L, c0 + mc, s0 + ms⟩,
      ⟨X.admits, X.cas, X.clock, X.frames, X.room, X.hears, X.method, X.code, (X.here.setHeapUsed s₂.heap s₂.slotsUsed).setVm hW'.alike, X.tail, State.WarmedH.trans X.warmed hW', X.limits, X.bytes, X.same.trans (hsame.setVm s.vm)⟩,
      ⟨g, mk, s₂, L, E, ce, rfl, rfl, hx, hce, hcv, hcl, rfl, hL, rfl, rfl⟩, ?_⟩
    show Steps p.tables e below _ (((({ U with heap := s₂.heap, slotsUsed := s₂.slotsUsed } : State).setVm s₂.vm).setTop g).pushFrame (.throwing q))
    rw [← hs₂]
    exact hsteps
end Payer
section Calls
variable {p : Program} {l : Launch} {e : Env} {R : Room} {s : State} {m : MethodId} {args : Array Value} {below : List Frame} {meth : Method} {c : Code} {T : State} {locs : List Loc} {cells slots : Nat}
theorem vx_callV (X : Stand p l e R s m args below meth c T locs cells slots) (hexec : p.tables.exec = Jvm.exec) {own C : String} {index : Nat} {y : MethodName} {bytes : ByteArray} {maxL : Nat} {ret : Option FieldType}
    (hown : s.vm.findClass own = some m.cls) (hlink : (Cond.methodLink own index y).before args s = true) (hinst : (Cond.instanceMethod y).before args s = true) (hsel : (Cond.selects C y y).before args s = true)
    (hcode : (Cond.code y bytes maxL ret).before args s = true) (hy : y.cls ≠ "java/lang/invoke/MethodHandle" ∧ y.cls ≠ "java/lang/invoke/VarHandle")
    {W9 : Nat} {Pre : Pt → Array Value → Prop} {Post : Pt → Array Value → Option Value → Pt → Prop} {PostX : Pt → Array Value → Addr → Pt → Prop} (hK : vx_Back l R p e below s args y 3 W9 Pre Post PostX)
    {b : Addr} {cellB : Cell} (hcell : T.heap[b]? = some cellB) (hobj : cellB.vm.isStatics = false) (hcls : s.vm.findClass C = some cellB.cls)
    {g : JFrame} (hg : g.method = m) (hsize : g.locals.size = c.maxLocals) {argsL rest : List Value} (hlen : ∀ sig, parseMethodDescriptor y.desc = some sig → argsL.length = sig.parameters.length)
    (hstack : g.stack = argsL.reverse ++ .ref b :: rest) (hW : 2 * g.monitorRoom + (rest.map fun v => v.category).sum ≤ W9) (hdg : decode c.code g.pc = .ok (.invokevirtual index, 3))
    (hpre : ∀ vm₁, s.WarmedH vm₁ → Pre ⟨T.setVm vm₁, locs, cells, slots⟩ (Value.ref b :: argsL).toArray) :
    (∃ (v : Option Value) (vm₁ : Vm) (B : Pt), s.WarmedH vm₁ ∧ Stand p l e R s m args below meth c B.U B.locs B.cells B.slots ∧ Post ⟨T.setVm vm₁, locs, cells, slots⟩ (Value.ref b :: argsL).toArray v B ∧
      ∀ target, Steps p.tables e below (B.U.setTop { g with pc := g.pc + 3, stack := v.toList ++ rest }) target → Steps p.tables e below (T.setTop g) target) ∨
    (∃ (q : Addr) (vm₁ : Vm) (B : Pt), s.WarmedH vm₁ ∧ Stand p l e R s m args below meth c B.U B.locs B.cells B.slots ∧ PostX ⟨T.setVm vm₁, locs, cells, slots⟩ (Value.ref b :: argsL).toArray q B ∧
      Steps p.tables e below (T.setTop g) ((B.U.setTop { g with stack := rest }).pushFrame (.throwing q))) := by
  obtain ⟨mk, methM, hnamed, hmethM, hstM, habM⟩ := Cond.instanceMethod_spec hinst
  obtain ⟨methM', cM, hmethM', -, -, -, -, -, -, hsigM⟩ := Cond.code_spec hnamed hcode
  cases hmethM.symm.trans hmethM'
  obtain ⟨c2, r2, m2, q1, q2, q3, q4, kP, hkP, hkPi⟩ := Cond.selects_spec hsel
  cases hcls.symm.trans q1
  cases (State.methodFound?_of_named hnamed hy).symm.trans q2
  cases hnamed.symm.trans q3
  have hselP : selectMethod e.platform s.vm cellB.cls mk = .method mk := by rw [Launch.admits_selectMethod X.admits]; exact q4
  obtain ⟨vm₁, X₁, hstep₁⟩ := X.invokevirtual hexec hown hlink hnamed hmethM hstM hkP hkPi hy (a := b) (cell := cellB) hcell
    (fun z h => by rw [h] at hobj; cases hobj) hselP hmethM habM hkP hkPi (g := g) hg (argsL := argsL) (rest := rest) (hlen _ hsigM) hstack hdg
  rcases hK m meth c ⟨T.setVm vm₁, locs, cells, slots⟩ { g with stack := rest } (.invokevirtual index) mk (Value.ref b :: argsL).toArray X₁ hg hsize hdg hW (X₁.named hnamed) (hpre vm₁ X₁.warmed) with ⟨v, B, X', hpost, hsteps⟩ | ⟨q, B, X', hpost, hsteps⟩
  · exact Or.inl ⟨v, vm₁, B, X₁.warmed, X', hpost, fun target h => hstep₁ _ fun acts => by rw [doInvoke_state]; exact hsteps.trans h⟩
  · exact Or.inr ⟨q, vm₁, B, X₁.warmed, X', hpost, hstep₁ _ fun acts => by rw [doInvoke_state]; exact hsteps⟩
theorem vx_callS (X : Stand p l e R s m args below meth c T locs cells slots) (hexec : p.tables.exec = Jvm.exec) {own : String} {index : Nat} {y : MethodName} {bytes : ByteArray} {maxL : Nat} {ret : Option FieldType}
    (hown : s.vm.findClass own = some m.cls) (hlink : (Cond.methodLink own index y).before args s = true) (hstat : (Cond.static y).before args s = true) (hinit : (Cond.initialized y.cls).before args s = true)
    (hcode : (Cond.code y bytes maxL ret).before args s = true) (hy : y.cls ≠ "java/lang/invoke/MethodHandle" ∧ y.cls ≠ "java/lang/invoke/VarHandle")
    {W9 : Nat} {Pre : Pt → Array Value → Prop} {Post : Pt → Array Value → Option Value → Pt → Prop} {PostX : Pt → Array Value → Addr → Pt → Prop} (hK : vx_Back l R p e below s args y 3 W9 Pre Post PostX)
    {g : JFrame} (hg : g.method = m) (hsize : g.locals.size = c.maxLocals) {argsL rest : List Value} (hlen : ∀ sig, parseMethodDescriptor y.desc = some sig → argsL.length = sig.parameters.length)
    (hstack : g.stack = argsL.reverse ++ rest) (hW : 2 * g.monitorRoom + (rest.map fun v => v.category).sum ≤ W9) (hdg : decode c.code g.pc = .ok (.invokestatic index, 3))
    (hpre : ∀ vm₁, s.WarmedH vm₁ → Pre ⟨T.setVm vm₁, locs, cells, slots⟩ argsL.toArray) :
    (∃ (v : Option Value) (vm₁ : Vm) (B : Pt), s.WarmedH vm₁ ∧ Stand p l e R s m args below meth c B.U B.locs B.cells B.slots ∧ Post ⟨T.setVm vm₁, locs, cells, slots⟩ argsL.toArray v B ∧
      ∀ target, Steps p.tables e below (B.U.setTop { g with pc := g.pc + 3, stack := v.toList ++ rest }) target → Steps p.tables e below (T.setTop g) target) ∨
    (∃ (q : Addr) (vm₁ : Vm) (B : Pt), s.WarmedH vm₁ ∧ Stand p l e R s m args below meth c B.U B.locs B.cells B.slots ∧ PostX ⟨T.setVm vm₁, locs, cells, slots⟩ argsL.toArray q B ∧
      Steps p.tables e below (T.setTop g) ((B.U.setTop { g with stack := rest }).pushFrame (.throwing q))) := by
  obtain ⟨mk, hnamed⟩ := Cond.code_named hcode
  obtain ⟨methM, cM, hmethM, -, -, -, -, -, -, hsigM⟩ := Cond.code_spec hnamed hcode
  have hstatic : methM.isStatic = true := Cond.static_spec hnamed hmethM hstat
  obtain ⟨kP, hkP, -⟩ := className_of_methodNamed hnamed
  have hinitP : kP.init = .initialized := Cond.initialized_spec (findClass_of_methodNamed hnamed) hkP hinit
  obtain ⟨vm₁, X₁, hstep₁⟩ := X.invokestatic hexec hown hlink hnamed hmethM hstatic hkP hinitP hy (g := g) hg (argsL := argsL) (rest := rest) (hlen _ hsigM) hstack hdg
  rcases hK m meth c ⟨T.setVm vm₁, locs, cells, slots⟩ { g with stack := rest } (.invokestatic index) mk argsL.toArray X₁ hg hsize hdg hW (X₁.named hnamed) (hpre vm₁ X₁.warmed) with ⟨v, B, X', hpost, hsteps⟩ | ⟨q, B, X', hpost, hsteps⟩
  · exact Or.inl ⟨v, vm₁, B, X₁.warmed, X', hpost, fun target h => hstep₁ _ fun acts => by rw [doInvoke_state]; exact hsteps.trans h⟩
  · exact Or.inr ⟨q, vm₁, B, X₁.warmed, X', hpost, hstep₁ _ fun acts => by rw [doInvoke_state]; exact hsteps⟩
end Calls
theorem vx_cls {s : State} {T : State} {vm₁ : Vm} {E : String} {k : ClassId} (hW : s.WarmedH vm₁) (h : (T.setVm vm₁).vm.findClass E = some k) : s.vm.findClass E = some k := by
  have h1 : vm₁.findClass E = some k := h
  rw [hW.alike.findClass] at h1
  exact h1
/-- the method's frame g, with q thrown over it -/
def vx_W (p : Program) (l : Launch) (e : Env) (R : Room) (s : State) (m : MethodId) (args : Array Value) (below : List Frame) (meth : Method) (c : Code) (H : Heap) (locs : List Loc) (cells slots : Nat) (Q : State → Prop) (g : JFrame) (q : Addr) : Prop :=
  ∀ T : State, T.heap = H → Stand p l e R s m args below meth c T locs cells slots → ∃ t, Steps p.tables e below ((T.setTop g).pushFrame (.throwing q)) t ∧ Q t
def vx_Run (p : Program) (l : Launch) (e : Env) (R : Room) (s : State) (m : MethodId) (args : Array Value) (below : List Frame) (meth : Method) (c : Code) (H : Heap) (locs : List Loc) (cells slots mc ms : Nat) (g : JFrame) (rest : List Value) (Qa : State → Outcome → State → Prop) (XC : String → State → State → Prop) (free : Addr → Prop) : Prop :=
  ∀ T : State, T.heap = H → Stand p l e R s m args below meth c T locs cells slots →
    (∃ (v : Option Value) (st₀ t T' : State) (L : List Loc), st₀.heap = H ∧ Stand p l e R s m args below meth c T' (locs ++ L) (cells + mc) (slots + ms) ∧ (∀ q ∈ L, free q.base) ∧ T'.heap = t.heap ∧ T'.vm = t.vm ∧ Qa st₀ (.returned v) t ∧
      Goes p e below T g T' { g with pc := g.pc + 3, stack := v.toList ++ rest }) ∨
    (∃ (q : Addr) (st₀ t T' : State) (L : List Loc) (E : String) (ce : Cell), st₀.heap = H ∧ Stand p l e R s m args below meth c T' (locs ++ L) (cells + mc) (slots + ms) ∧ (∀ z ∈ L, free z.base) ∧ T'.heap = t.heap ∧ T'.vm = t.vm ∧ XC E st₀ t ∧ t.heap[q]? = some ce ∧ ce.vm = .none ∧ s.vm.findClass E = some ce.cls ∧
      Steps p.tables e below (T.setTop g) ((T'.setTop { g with stack := rest }).pushFrame (.throwing q)))
def vx_X {S : Type} (px : S → Prop) (B : String → S → State → Prop) (A : Nat → Prop) : String → State → State → Prop := fun E st t => ∃ u : S, px u ∧ B E u t ∧ va_F A st t
section Runs
variable {p : Program} {l : Launch} {e : Env} {R : Room} {s : State} {m : MethodId} {args : Array Value} {below : List Frame} {meth : Method} {c : Code} {H : Heap} {locs : List Loc} {cells slots : Nat}
variable {y : MethodName} {bytes cc : ByteArray} {maxL nL mc ms n index : Nat} {ret : Option FieldType} {ws : List Cond} {rm : Room} {Pc : Array Value → State → Prop} {Qc : Array Value → State → Outcome → State → Prop} {XC : String → State → State → Prop} {free : Addr → Prop} {Ts : List Cond} {own C : String} {b : Addr} {As rest : List Value} {g : JFrame}
theorem vx_callBack (cb : CallB R s args own index y bytes maxL ret ws rm mc ms n) (hM : vx_Met l y ws rm Pc Qc XC mc ms free) (hbl : FrameBlind Pc) : vx_Back l R p e below s args y 3 8 (PreOf R mc ms Pc) (PostOf Qc mc ms free) (vx_Post XC mc ms free) := by
  obtain ⟨hrc, hrs, hfr, hlo, hws, hcw, -, hini, -⟩ := cb
  exact vx_back (bytes := bytes) (maxL := maxL) (ret := ret) hM hbl hrc hrs hfr hlo hws hcw (fun a' U hW => word_at hW (Or.inl (by first | rfl | simp [Cond.onTables, Cond.keeps, Cond.steady])) hini)
theorem vx_runV (S : CallFix p m c cc nL s args Ts own) (hM : vx_Met l y ws rm Pc Qc XC mc ms free) (cw : CallW R s args own C index y bytes maxL ret ws rm mc ms n) (hp : PreV s H C b Pc As)
    (hg : g.method = m) (hn : As.length = n) (hsize : g.locals.size = nL) (hstack : g.stack = As.reverse ++ .ref b :: rest) (hW : 2 * g.monitorRoom + (rest.map fun v => v.category).sum ≤ 8) (hdg : decode cc g.pc = .ok (.invokevirtual index, 3)) (hf : cells + mc ≤ R.cells ∧ slots + ms ≤ R.slots) :
    vx_Run p l e R s m args below meth c H locs cells slots mc ms g rest (Qc (Value.ref b :: As).toArray) XC free := by
  have hK : vx_Back l R p e below s args y 3 8 (PreOf R mc ms Pc) (PostOf Qc mc ms free) (vx_Post XC mc ms free) := vx_callBack cw.1 hM hp.1
  obtain ⟨⟨-, -, -, -, -, -, hcode, -, hy, hlen, hl⟩, hin, hse⟩ := cw
  obtain ⟨hx, hb, hml, ho, -⟩ := S
  obtain ⟨-, ⟨cellB, hcB, hoB, hclB⟩, hPc⟩ := hp
  intro T hT X
  rcases vx_callV X hx (C := C) (bytes := bytes) (maxL := maxL) (ret := ret) ho hl hin hse hcode hy hK (by rw [hT]; exact hcB) hoB hclB hg (hsize.trans hml.symm) (argsL := As) (rest := rest) (fun sig h => hn.trans (hlen sig h)) hstack hW (by rw [hb]; exact hdg)
    (fun vm₁ hW₁ => ⟨hf.1, hf.2, hPc (T.setVm vm₁) hT hW₁⟩) with ⟨v, vm₁, ⟨U', l2, c2, s2⟩, hW₁, X', ⟨g', mk, t, L, e1, e2, hq, h1, hL, h2, h3⟩, st⟩ | ⟨q, vm₁, ⟨U', l2, c2, s2⟩, hW₁, X', ⟨g', mk, t, L, E, ce, e1, e2, hq, hce, hcv, hcl, h1, hL, h2, h3⟩, st⟩
  · dsimp only [Pt.U, Pt.locs, Pt.cells, Pt.slots] at X' e1 e2 h1 h2 h3 st
    subst h1; subst h2; subst h3
    exact Or.inl ⟨v, (T.setVm vm₁).calling g' mk (Value.ref b :: As).toArray, t, U', L, hT, X', hL, e1, e2, hq, st⟩
  · dsimp only [Pt.U, Pt.locs, Pt.cells, Pt.slots] at X' e1 e2 h1 h2 h3 st hcl
    subst h1; subst h2; subst h3
    exact Or.inr ⟨q, (T.setVm vm₁).calling g' mk (Value.ref b :: As).toArray, t, U', L, E, ce, hT, X', hL, e1, e2, hq, hce, hcv, vx_cls hW₁ hcl, st⟩
theorem vx_runS (S : CallFix p m c cc nL s args Ts own) (hM : vx_Met l y ws rm Pc Qc XC mc ms free) (cw : CallB R s args own index y bytes maxL ret ws rm mc ms n ∧ (Cond.static y).before args s = true) (hp : PreS s H Pc As)
    (hg : g.method = m) (hn : As.length = n) (hsize : g.locals.size = nL) (hstack : g.stack = As.reverse ++ rest) (hW : 2 * g.monitorRoom + (rest.map fun v => v.category).sum ≤ 8) (hdg : decode cc g.pc = .ok (.invokestatic index, 3)) (hf : cells + mc ≤ R.cells ∧ slots + ms ≤ R.slots) :
    vx_Run p l e R s m args below meth c H locs cells slots mc ms g rest (Qc As.toArray) XC free := by
  have hK : vx_Back l R p e below s args y 3 8 (PreOf R mc ms Pc) (PostOf Qc mc ms free) (vx_Post XC mc ms free) := vx_callBack cw.1 hM hp.1
  obtain ⟨⟨-, -, -, -, -, -, hcode, hini, hy, hlen, hl⟩, hstt⟩ := cw
  obtain ⟨hx, hb, hml, ho, -⟩ := S
  intro T hT X
  rcases vx_callS X hx (bytes := bytes) (maxL := maxL) (ret := ret) ho hl hstt hini hcode hy hK hg (hsize.trans hml.symm) (argsL := As) (rest := rest) (fun sig h => hn.trans (hlen sig h)) hstack hW (by rw [hb]; exact hdg)
    (fun vm₁ hW₁ => ⟨hf.1, hf.2, hp.2 (T.setVm vm₁) hT hW₁⟩) with ⟨v, vm₁, ⟨U', l2, c2, s2⟩, hW₁, X', ⟨g', mk, t, L, e1, e2, hq, h1, hL, h2, h3⟩, st⟩ | ⟨q, vm₁, ⟨U', l2, c2, s2⟩, hW₁, X', ⟨g', mk, t, L, E, ce, e1, e2, hq, hce, hcv, hcl, h1, hL, h2, h3⟩, st⟩
  · dsimp only [Pt.U, Pt.locs, Pt.cells, Pt.slots] at X' e1 e2 h1 h2 h3 st
    subst h1; subst h2; subst h3
    exact Or.inl ⟨v, (T.setVm vm₁).calling g' mk As.toArray, t, U', L, hT, X', hL, e1, e2, hq, st⟩
  · dsimp only [Pt.U, Pt.locs, Pt.cells, Pt.slots] at X' e1 e2 h1 h2 h3 st hcl
    subst h1; subst h2; subst h3
    exact Or.inr ⟨q, (T.setVm vm₁).calling g' mk As.toArray, t, U', L, E, ce, hT, X', hL, e1, e2, hq, hce, hcv, vx_cls hW₁ hcl, st⟩
end Runs
section Rows
variable {p : Program} {l : Launch} {e : Env} {R : Room} {s : State} {m : MethodId} {args : Array Value} {below : List Frame} {meth : Method} {c : Code} {H : Heap} {locs : List Loc} {cells slots : Nat} {Q : State → Prop}
variable {mc ms : Nat} {free : Addr → Prop} {A0 A1 : Nat → Prop} {H0 : Heap} {a : Array Value} {pc : Nat} {ls : Array Slot} {st0 rest : List Value}
theorem vx_keep {st₀ t T' : State} {L : List Loc} (h0 : st₀.heap = H) (e1 : T'.heap = t.heap) (hS : va_S A0 H0 H locs) (hA : ∀ q, q < H.size → A1 q → A0 q) (hf : ∀ q, free q → A0 q) (hL : ∀ q ∈ L, free q.base) (hF : va_F A1 st₀ t) :
    H.size ≤ T'.heap.size ∧ (∀ q : Nat, q < H.size → ¬ A1 q → T'.heap[q]? = H[q]?) ∧ va_S A0 H0 T'.heap (locs ++ L) := by
  obtain ⟨hz, hk⟩ := hF
  rw [h0] at hz hk
  exact ⟨by rw [e1]; exact hz, fun q h1 h2 => by rw [e1]; exact hk q h1 h2,
    ⟨Nat.le_trans hS.1 (by rw [e1]; exact hz), fun q h1 h2 => by rw [e1, hk q (Nat.lt_of_lt_of_le h1 hS.1) (fun z => h2 (hA q (Nat.lt_of_lt_of_le h1 hS.1) z))]; exact hS.2.1 q h1 h2, fun q hq => by
      rcases List.mem_append.mp hq with h | h
      · exact hS.2.2 q h
      · exact hf _ (hL q h)⟩⟩
theorem vx_calli {S SX : Type} {post : Int32 → S → Prop} {px : SX → Prop} {B : S → State → Prop} {BX : String → SX → State → Prop} {AX : Nat → Prop} (hr : vx_Run p l e R s m args below meth c H locs cells slots mc ms (F0 m pc ls st0) rest (va_Qi post B A1 a) (vx_X px BX AX) free) (hS : va_S A0 H0 H locs) (hA : ∀ q, q < H.size → A1 q → A0 q) (hf : ∀ q, free q → A0 q) (hAX : ∀ q, q < H.size → AX q → A0 q)
    (kx : ∀ (E : String) (ce : Cell) (q9 : Addr) (u : SX) (t : State) (H1 : Heap) (locs1 : List Loc), t.heap = H1 → s.vm.Alike t.vm → px u → BX E u t → H.size ≤ H1.size → (∀ q : Nat, q < H.size → ¬ AX q → H1[q]? = H[q]?) → va_S A0 H0 H1 locs1 → H1[q9]? = some ce → ce.vm = .none → s.vm.findClass E = some ce.cls → vx_W p l e R s m args below meth c H1 locs1 (cells + mc) (slots + ms) Q (F0 m pc ls rest) q9)
    (kk : ∀ (r : Int32) (u : S) (t : State) (H1 : Heap) (locs1 : List Loc), t.heap = H1 → s.vm.Alike t.vm → post r u → B u t → H.size ≤ H1.size → (∀ q : Nat, q < H.size → ¬ A1 q → H1[q]? = H[q]?) → va_S A0 H0 H1 locs1 → W p l e R s m args below meth c H1 locs1 (cells + mc) (slots + ms) Q (F0 m (pc + 3) ls (.int r :: rest))) : W p l e R s m args below meth c H locs cells slots Q (F0 m pc ls st0) := by
  intro T hT X
  rcases hr T hT X with ⟨v, st₀, t, T', L, h0, X', hL, e1, e2, ⟨⟨r, u, hv, hp, hb⟩, hF⟩, st⟩ | ⟨q, st₀, t, T', L, E, ce, h0, X', hL, e1, e2, ⟨u, hp, hb, hF⟩, hce, hcv, hcl, st⟩
  · cases hv
    obtain ⟨k1, k2, k3⟩ := vx_keep h0 e1 hS hA hf hL hF
    obtain ⟨t2, a1, b1⟩ := kk r u t T'.heap (locs ++ L) e1.symm (by rw [← e2]; exact X'.warmed.alike) hp hb k1 k2 k3 T' rfl X'
    exact ⟨t2, st t2 a1, b1⟩
  · obtain ⟨k1, k2, k3⟩ := vx_keep h0 e1 hS hAX hf hL hF
    obtain ⟨t2, a1, b1⟩ := kx E ce q u t T'.heap (locs ++ L) e1.symm (by rw [← e2]; exact X'.warmed.alike) hp hb k1 k2 k3 (by rw [e1]; exact hce) hcv hcl T' rfl X'
    exact ⟨t2, st.trans a1, b1⟩
theorem vx_calll {S SX : Type} {post : Int64 → S → Prop} {px : SX → Prop} {B : S → State → Prop} {BX : String → SX → State → Prop} {AX : Nat → Prop} (hr : vx_Run p l e R s m args below meth c H locs cells slots mc ms (F0 m pc ls st0) rest (va_Ql post B A1 a) (vx_X px BX AX) free) (hS : va_S A0 H0 H locs) (hA : ∀ q, q < H.size → A1 q → A0 q) (hf : ∀ q, free q → A0 q) (hAX : ∀ q, q < H.size → AX q → A0 q)
    (kx : ∀ (E : String) (ce : Cell) (q9 : Addr) (u : SX) (t : State) (H1 : Heap) (locs1 : List Loc), t.heap = H1 → s.vm.Alike t.vm → px u → BX E u t → H.size ≤ H1.size → (∀ q : Nat, q < H.size → ¬ AX q → H1[q]? = H[q]?) → va_S A0 H0 H1 locs1 → H1[q9]? = some ce → ce.vm = .none → s.vm.findClass E = some ce.cls → vx_W p l e R s m args below meth c H1 locs1 (cells + mc) (slots + ms) Q (F0 m pc ls rest) q9)
    (kk : ∀ (r : Int64) (u : S) (t : State) (H1 : Heap) (locs1 : List Loc), t.heap = H1 → s.vm.Alike t.vm → post r u → B u t → H.size ≤ H1.size → (∀ q : Nat, q < H.size → ¬ A1 q → H1[q]? = H[q]?) → va_S A0 H0 H1 locs1 → W p l e R s m args below meth c H1 locs1 (cells + mc) (slots + ms) Q (F0 m (pc + 3) ls (.long r :: rest))) : W p l e R s m args below meth c H locs cells slots Q (F0 m pc ls st0) := by
  intro T hT X
  rcases hr T hT X with ⟨v, st₀, t, T', L, h0, X', hL, e1, e2, ⟨⟨r, u, hv, hp, hb⟩, hF⟩, st⟩ | ⟨q, st₀, t, T', L, E, ce, h0, X', hL, e1, e2, ⟨u, hp, hb, hF⟩, hce, hcv, hcl, st⟩
  · cases hv
    obtain ⟨k1, k2, k3⟩ := vx_keep h0 e1 hS hA hf hL hF
    obtain ⟨t2, a1, b1⟩ := kk r u t T'.heap (locs ++ L) e1.symm (by rw [← e2]; exact X'.warmed.alike) hp hb k1 k2 k3 T' rfl X'
    exact ⟨t2, st t2 a1, b1⟩
  · obtain ⟨k1, k2, k3⟩ := vx_keep h0 e1 hS hAX hf hL hF
    obtain ⟨t2, a1, b1⟩ := kx E ce q u t T'.heap (locs ++ L) e1.symm (by rw [← e2]; exact X'.warmed.alike) hp hb k1 k2 k3 (by rw [e1]; exact hce) hcv hcl T' rfl X'
    exact ⟨t2, st.trans a1, b1⟩
theorem vx_callf {S SX : Type} {post : UInt32 → S → Prop} {px : SX → Prop} {B : S → State → Prop} {BX : String → SX → State → Prop} {AX : Nat → Prop} (hr : vx_Run p l e R s m args below meth c H locs cells slots mc ms (F0 m pc ls st0) rest (va_Qf post B A1 a) (vx_X px BX AX) free) (hS : va_S A0 H0 H locs) (hA : ∀ q, q < H.size → A1 q → A0 q) (hf : ∀ q, free q → A0 q) (hAX : ∀ q, q < H.size → AX q → A0 q)
    (kx : ∀ (E : String) (ce : Cell) (q9 : Addr) (u : SX) (t : State) (H1 : Heap) (locs1 : List Loc), t.heap = H1 → s.vm.Alike t.vm → px u → BX E u t → H.size ≤ H1.size → (∀ q : Nat, q < H.size → ¬ AX q → H1[q]? = H[q]?) → va_S A0 H0 H1 locs1 → H1[q9]? = some ce → ce.vm = .none → s.vm.findClass E = some ce.cls → vx_W p l e R s m args below meth c H1 locs1 (cells + mc) (slots + ms) Q (F0 m pc ls rest) q9)
    (kk : ∀ (r : UInt32) (u : S) (t : State) (H1 : Heap) (locs1 : List Loc), t.heap = H1 → s.vm.Alike t.vm → post r u → B u t → H.size ≤ H1.size → (∀ q : Nat, q < H.size → ¬ A1 q → H1[q]? = H[q]?) → va_S A0 H0 H1 locs1 → W p l e R s m args below meth c H1 locs1 (cells + mc) (slots + ms) Q (F0 m (pc + 3) ls (.float r :: rest))) : W p l e R s m args below meth c H locs cells slots Q (F0 m pc ls st0) := by
  intro T hT X
  rcases hr T hT X with ⟨v, st₀, t, T', L, h0, X', hL, e1, e2, ⟨⟨r, u, hv, hp, hb⟩, hF⟩, st⟩ | ⟨q, st₀, t, T', L, E, ce, h0, X', hL, e1, e2, ⟨u, hp, hb, hF⟩, hce, hcv, hcl, st⟩
  · cases hv
    obtain ⟨k1, k2, k3⟩ := vx_keep h0 e1 hS hA hf hL hF
    obtain ⟨t2, a1, b1⟩ := kk r u t T'.heap (locs ++ L) e1.symm (by rw [← e2]; exact X'.warmed.alike) hp hb k1 k2 k3 T' rfl X'
    exact ⟨t2, st t2 a1, b1⟩
  · obtain ⟨k1, k2, k3⟩ := vx_keep h0 e1 hS hAX hf hL hF
    obtain ⟨t2, a1, b1⟩ := kx E ce q u t T'.heap (locs ++ L) e1.symm (by rw [← e2]; exact X'.warmed.alike) hp hb k1 k2 k3 (by rw [e1]; exact hce) hcv hcl T' rfl X'
    exact ⟨t2, st.trans a1, b1⟩
theorem vx_calld {S SX : Type} {post : UInt64 → S → Prop} {px : SX → Prop} {B : S → State → Prop} {BX : String → SX → State → Prop} {AX : Nat → Prop} (hr : vx_Run p l e R s m args below meth c H locs cells slots mc ms (F0 m pc ls st0) rest (va_Qd post B A1 a) (vx_X px BX AX) free) (hS : va_S A0 H0 H locs) (hA : ∀ q, q < H.size → A1 q → A0 q) (hf : ∀ q, free q → A0 q) (hAX : ∀ q, q < H.size → AX q → A0 q)
    (kx : ∀ (E : String) (ce : Cell) (q9 : Addr) (u : SX) (t : State) (H1 : Heap) (locs1 : List Loc), t.heap = H1 → s.vm.Alike t.vm → px u → BX E u t → H.size ≤ H1.size → (∀ q : Nat, q < H.size → ¬ AX q → H1[q]? = H[q]?) → va_S A0 H0 H1 locs1 → H1[q9]? = some ce → ce.vm = .none → s.vm.findClass E = some ce.cls → vx_W p l e R s m args below meth c H1 locs1 (cells + mc) (slots + ms) Q (F0 m pc ls rest) q9)
    (kk : ∀ (r : UInt64) (u : S) (t : State) (H1 : Heap) (locs1 : List Loc), t.heap = H1 → s.vm.Alike t.vm → post r u → B u t → H.size ≤ H1.size → (∀ q : Nat, q < H.size → ¬ A1 q → H1[q]? = H[q]?) → va_S A0 H0 H1 locs1 → W p l e R s m args below meth c H1 locs1 (cells + mc) (slots + ms) Q (F0 m (pc + 3) ls (.double r :: rest))) : W p l e R s m args below meth c H locs cells slots Q (F0 m pc ls st0) := by
  intro T hT X
  rcases hr T hT X with ⟨v, st₀, t, T', L, h0, X', hL, e1, e2, ⟨⟨r, u, hv, hp, hb⟩, hF⟩, st⟩ | ⟨q, st₀, t, T', L, E, ce, h0, X', hL, e1, e2, ⟨u, hp, hb, hF⟩, hce, hcv, hcl, st⟩
  · cases hv
    obtain ⟨k1, k2, k3⟩ := vx_keep h0 e1 hS hA hf hL hF
    obtain ⟨t2, a1, b1⟩ := kk r u t T'.heap (locs ++ L) e1.symm (by rw [← e2]; exact X'.warmed.alike) hp hb k1 k2 k3 T' rfl X'
    exact ⟨t2, st t2 a1, b1⟩
  · obtain ⟨k1, k2, k3⟩ := vx_keep h0 e1 hS hAX hf hL hF
    obtain ⟨t2, a1, b1⟩ := kx E ce q u t T'.heap (locs ++ L) e1.symm (by rw [← e2]; exact X'.warmed.alike) hp hb k1 k2 k3 (by rw [e1]; exact hce) hcv hcl T' rfl X'
    exact ⟨t2, st.trans a1, b1⟩
theorem vx_callv {S SX : Type} {post : S → Prop} {px : SX → Prop} {B : S → State → Prop} {BX : String → SX → State → Prop} {AX : Nat → Prop} (hr : vx_Run p l e R s m args below meth c H locs cells slots mc ms (F0 m pc ls st0) rest (va_Qv post B A1 a) (vx_X px BX AX) free) (hS : va_S A0 H0 H locs) (hA : ∀ q, q < H.size → A1 q → A0 q) (hf : ∀ q, free q → A0 q) (hAX : ∀ q, q < H.size → AX q → A0 q)
    (kx : ∀ (E : String) (ce : Cell) (q9 : Addr) (u : SX) (t : State) (H1 : Heap) (locs1 : List Loc), t.heap = H1 → s.vm.Alike t.vm → px u → BX E u t → H.size ≤ H1.size → (∀ q : Nat, q < H.size → ¬ AX q → H1[q]? = H[q]?) → va_S A0 H0 H1 locs1 → H1[q9]? = some ce → ce.vm = .none → s.vm.findClass E = some ce.cls → vx_W p l e R s m args below meth c H1 locs1 (cells + mc) (slots + ms) Q (F0 m pc ls rest) q9)
    (kk : ∀ (u : S) (t : State) (H1 : Heap) (locs1 : List Loc), t.heap = H1 → s.vm.Alike t.vm → post u → B u t → H.size ≤ H1.size → (∀ q : Nat, q < H.size → ¬ A1 q → H1[q]? = H[q]?) → va_S A0 H0 H1 locs1 → W p l e R s m args below meth c H1 locs1 (cells + mc) (slots + ms) Q (F0 m (pc + 3) ls (rest))) : W p l e R s m args below meth c H locs cells slots Q (F0 m pc ls st0) := by
  intro T hT X
  rcases hr T hT X with ⟨v, st₀, t, T', L, h0, X', hL, e1, e2, ⟨⟨u, hv, hp, hb⟩, hF⟩, st⟩ | ⟨q, st₀, t, T', L, E, ce, h0, X', hL, e1, e2, ⟨u, hp, hb, hF⟩, hce, hcv, hcl, st⟩
  · cases hv
    obtain ⟨k1, k2, k3⟩ := vx_keep h0 e1 hS hA hf hL hF
    obtain ⟨t2, a1, b1⟩ := kk u t T'.heap (locs ++ L) e1.symm (by rw [← e2]; exact X'.warmed.alike) hp hb k1 k2 k3 T' rfl X'
    exact ⟨t2, st t2 a1, b1⟩
  · obtain ⟨k1, k2, k3⟩ := vx_keep h0 e1 hS hAX hf hL hF
    obtain ⟨t2, a1, b1⟩ := kx E ce q u t T'.heap (locs ++ L) e1.symm (by rw [← e2]; exact X'.warmed.alike) hp hb k1 k2 k3 (by rw [e1]; exact hce) hcv hcl T' rfl X'
    exact ⟨t2, st.trans a1, b1⟩
/-- caught by the row x of this method's table; the rows ahead don't take it -/
theorem vx_catch {own name : String} {E : String} {ce : Cell} {q : Addr} (hown : s.vm.findClass own = some m.cls) (pre : List ExceptionTableEntry) (x : ExceptionTableEntry) (suf : List ExceptionTableEntry) (hsplit : c.exceptionTable.toList = pre ++ x :: suf)
    (hpass : ∀ z ∈ pre, covers z pc = false ∨ (z.catchType ≠ 0 ∧ ∃ nm : String, (Cond.classLink own z.catchType nm).before args s = true ∧ va_Nc E nm s)) (hx : covers x pc = true) (h0 : x.catchType ≠ 0)
    (hlink : (Cond.classLink own x.catchType name).before args s = true) (hcast : (Cond.castable E name).before args s = true) (hcell : H[q]? = some ce) (hv : ce.vm = .none) (hcl : s.vm.findClass E = some ce.cls)
    (kk : W p l e R s m args below meth c H locs cells slots Q (F0 m x.handlerPc ls [.ref q])) : vx_W p l e R s m args below meth c H locs cells slots Q (F0 m pc ls rest) q := by
  intro T hT X
  have hpl : e.platform.magicAccessors = ({} : Platform).magicAccessors := by rw [X.admits.platform]
  obtain ⟨c3, c4, hc3, hc4, hasg⟩ := Cond.castable_spec hcast
  cases Option.some.inj (hc3.symm.trans hcl)
  obtain ⟨c5, hc5, hcl5⟩ := Cond.classLink_spec hown hlink e.platform hpl
  cases Option.some.inj (hc4.symm.trans hc5)
  obtain ⟨vm', X', st⟩ := X.thenCaughtThrough q (g := F0 m pc ls rest) rfl (Steps.refl _) (by rw [hT]; exact hcell) (by rw [hv]; rfl) (by obtain ⟨k9, h9, -⟩ := Vm.findClass_spec hcl; exact ⟨k9, h9⟩) pre x suf hsplit
    (fun z hz => by
      rcases hpass z hz with h | ⟨hz0, nm, hl1, hn1⟩
      · exact Or.inl h
      · obtain ⟨c6, hc6, hcl6⟩ := Cond.classLink_spec hown hl1 e.platform hpl
        obtain ⟨a8, b8, h1, h2, h3⟩ := hn1
        cases Option.some.inj (h1.symm.trans hcl)
        cases Option.some.inj (h2.symm.trans hc6)
        exact Or.inr ⟨hz0, _, hcl6, h3⟩) hx (Or.inr ⟨h0, c4, hcl5, hasg⟩)
  obtain ⟨t, a1, b1⟩ := kk (T.setVm vm') hT X'
  exact ⟨t, st.trans a1, b1⟩
end Rows
section Ends
variable {p : Program} {l : Launch} {e : Env} {R : Room} {s : State} {m : MethodId} {args : Array Value} {below : List Frame} {meth : Method} {c : Code} {H : Heap} {locs : List Loc} {cells slots : Nat} {Q : State → Prop}
variable {mc ms : Nat} {free : Addr → Prop} {A0 A1 : Nat → Prop} {H0 : Heap} {a : Array Value} {ls : Array Slot} {st0 rest : List Value}
variable {Qc : Array Value → State → Outcome → State → Prop} {XC : String → State → State → Prop}
/-- what a body that may throw owes at its end -/
def vx_MQ (below : List Frame) (Qc : Array Value → State → Outcome → State → Prop) (XC : String → State → State → Prop) (a : Array Value) (s : State) (mc ms : Nat) (free : Addr → Prop) : State → Prop := fun t =>
  ∃ o, t.status = .running ∧ Ended t below o ∧ vx_Q Qc XC mc ms free a s o t
theorem vx_ret {g : JFrame} {mc ms : Nat} (k : W p l e R s m args below meth c H locs cells slots (MQ below Qc args s mc ms free) g) : W p l e R s m args below meth c H locs cells slots (vx_MQ below Qc XC args s mc ms free) g := by
  intro T hT X
  obtain ⟨t, a1, o, b1, b2, b3, b4⟩ := k T hT X
  exact ⟨t, a1, o, b1, b2, Or.inl ⟨b3, b4⟩⟩
/-- not caught here: it goes on to the caller -/
theorem vx_widen {g : JFrame} {q : Addr} {k n : Nat} (h1 : cells ≤ k) (h2 : slots ≤ n) (kk : vx_W p l e R s m args below meth c H locs k n Q g q) : vx_W p l e R s m args below meth c H locs cells slots Q g q := fun T hT X => kk T hT (stand_widen X h1 h2)
theorem vx_out {pc : Nat} {E : String} {ce : Cell} {q : Addr} {mc ms : Nat} (hout : ∀ x ∈ c.exceptionTable.toList, covers x pc = false) (hlocks : meth.locks = false) (hcell : H[q]? = some ce) (hv : ce.vm = .none) (hcl : s.vm.findClass E = some ce.cls)
    (hx : ∀ t : State, t.heap = H → s.vm.Alike t.vm → XC E s t) (hf : ∀ z ∈ locs, free z.base) (hc : cells ≤ mc) (hs : slots ≤ ms) :
    vx_W p l e R s m args below meth c H locs cells slots (vx_MQ below Qc XC args s mc ms free) (F0 m pc ls rest) q := by
  intro T hT X
  obtain ⟨st1, hrun, hend, hW, hsm⟩ := X.leaveThrown q (g := F0 m pc ls rest) rfl rfl rfl hout hlocks
  have hcell9 : (T.setFrames (.throwing q :: below)).heap[q]? = some ce := by
    show T.heap[q]? = some ce
    rw [hT]; exact hcell
  exact ⟨_, st1, .threw q, hrun, hend, Or.inr ⟨q, rfl, E, ce, locs, hx _ hT hW.alike, hcell9, hv, hcl, hW, hsm.mono hc hs, hf⟩⟩
theorem vx_frame {U : State} {k n : Nat} (h : s.sameButNew ({ U with vm := s.vm } : State) locs k n) : s.heap.size ≤ U.heap.size ∧ ∀ q : Nat, q < s.heap.size → (∀ z ∈ locs, z.base ≠ q) → U.heap[q]? = s.heap[q]? := by
  obtain ⟨-, h2, -, -, -, h6⟩ := h
  refine ⟨h2, fun q hq hz => ?_⟩
  obtain ⟨c9, e1, e2, e3, e4⟩ := h6 q _ (Array.getElem?_eq_getElem hq)
  have hs : c9.slots = (s.heap[q]).slots := Array.ext_getElem? fun i => e4 i fun hm => hz _ hm rfl
  have h9 : c9 = s.heap[q] := by
    rw [hs] at e2
    exact e2
  have e5 : U.heap[q]? = some c9 := e1
  rw [e5, h9, Array.getElem?_eq_getElem hq]
/-- the words of a throw but the four that speak of the heap -/
def vx_no (w : Cond) : Bool := decide (w ≠ .isRef (.static Bundle.tN "UNASSIGNED_STACK" Bundle.steD)) && decide (w ≠ .isRef (.static Bundle.tN "SUPPRESSED_SENTINEL" Bundle.listD)) && decide (w ≠ .laysStatic Bundle.tN "UNASSIGNED_STACK" Bundle.steD) && decide (w ≠ .laysStatic Bundle.tN "SUPPRESSED_SENTINEL" Bundle.listD)
def vx_at0 (own : String) (ic : Nat) (X : String) (names : List String) : List Cond := (Bundle.ownAtoms0 own ic X names).filter vx_no
def vx_atS (own : String) (ic : Nat) (X : String) (names : List String) : List Cond := (Bundle.ownAtoms own ic X names).filter vx_no
/-- a word that the tables alone decide, or a good one -/
def vx_ot (w : Cond) : Bool := w.onTables || goodWord w
theorem vx_ot_at {args a' : Array Value} {s U : State} {w : Cond} (hW : s.WarmedH U.vm) (hvm : s.vm = U.vm) (hg : vx_ot w = true) (h : w.before args s = true) : w.before a' U = true := by
  simp only [vx_ot, Bool.or_eq_true] at hg
  rcases hg with hg | hg
  · exact va_tabs hg hvm h
  · exact word_at hW (good_of_word hg) h
/-- a list's words: the good ones out of the method's own list, the others by premises of their own -/
theorem vx_hat {args : Array Value} {s : State} {L B : List Cond} (h1 : ∀ w ∈ L.filter goodWord, w.before args s = true) (h2 : ∀ w ∈ L.filter (fun w => !goodWord w), w ∈ B) (h3 : ∀ w ∈ B, w.before args s = true) : ∀ w ∈ L, w.before args s = true := by
  intro w hw
  by_cases g : goodWord w = true
  · exact h1 w (List.mem_filter.mpr ⟨hw, g⟩)
  · refine h3 w (h2 w (List.mem_filter.mpr ⟨hw, ?_⟩))
    show (!goodWord w) = true
    cases hgw : goodWord w
    · rfl
    · exact absurd hgw g
theorem vx_c {args : Array Value} {s : State} {w : Cond} {B : List Cond} (h : w.before args s = true) (t : ∀ w ∈ B, w.before args s = true) : ∀ w' ∈ w :: B, w'.before args s = true := fun w' h' => (List.mem_cons.mp h').elim (fun e => by rw [e]; exact h) (t w')
theorem vx_n {args : Array Value} {s : State} : ∀ w ∈ ([] : List Cond), w.before args s = true := fun _ h => nomatch h
theorem vx_own {args : Array Value} {s : State} {L : List Cond} (h1 : ∀ w ∈ L.filter vx_no, w.before args s = true)
    (hU : (Cond.isRef (.static Bundle.tN "UNASSIGNED_STACK" Bundle.steD)).before args s = true) (hN : (Cond.isRef (.static Bundle.tN "SUPPRESSED_SENTINEL" Bundle.listD)).before args s = true)
    (lU : (Cond.laysStatic Bundle.tN "UNASSIGNED_STACK" Bundle.steD).before args s = true) (lN : (Cond.laysStatic Bundle.tN "SUPPRESSED_SENTINEL" Bundle.listD).before args s = true) : ∀ w ∈ L, w.before args s = true := by
  intro w hw
  by_cases e1 : w = .isRef (.static Bundle.tN "UNASSIGNED_STACK" Bundle.steD)
  · rw [e1]; exact hU
  · by_cases e2 : w = .isRef (.static Bundle.tN "SUPPRESSED_SENTINEL" Bundle.listD)
    · rw [e2]; exact hN
    · by_cases e3 : w = .laysStatic Bundle.tN "UNASSIGNED_STACK" Bundle.steD
      · rw [e3]; exact lU
      · by_cases e4 : w = .laysStatic Bundle.tN "SUPPRESSED_SENTINEL" Bundle.listD
        · rw [e4]; exact lN
        · exact h1 w (List.mem_filter.mpr ⟨hw, by unfold vx_no; rw [decide_eq_true e1, decide_eq_true e2, decide_eq_true e3, decide_eq_true e4]; rfl⟩)
/-- where a static field lies, its class's statics cell in H -/
def vx_L (C n d : String) (A : Nat → Prop) (U : State) (H : Heap) : Prop := ∃ (c : ClassId) (k : Class) (i : Nat) (f : Field) (a : Nat) (cell : Cell), U.vm.findClass C = some c ∧ U.fieldFound? C n d = some (c, k, i, f) ∧ f.isStatic = true ∧ k.statics = some a ∧ H[a]? = some cell ∧ cell.vm.isStatics = true ∧ cell.cls = c ∧ f.slot < cell.slots.size ∧ k.staticTypes[f.slot]? = some f.type ∧ ¬ A a
theorem vx_L.moved {C n d : String} {A : Nat → Prop} {u U : State} {H : Heap} (hvm : u.vm.Alike U.vm) (h : vx_L C n d A u H) : vx_L C n d A U H := by
  obtain ⟨c, k, i, f, a, cell, h1, h2, h3, h4, h5, h6, h7, h8, h9, h10⟩ := h
  obtain ⟨k', hi', he⟩ := State.fieldFound?_setVm hvm h2
  exact ⟨c, k', i, f, a, cell, by rw [hvm.findClass]; exact h1, hi', h3, by rw [he]; exact h4, h5, h6, h7, h8, by rw [he]; exact h9, h10⟩
theorem vx_L.kept {C n d : String} {A : Nat → Prop} {U : State} {H H1 : Heap} (h : vx_L C n d A U H) (hq : ∀ a : Nat, a < H.size → ¬ A a → H1[a]? = H[a]?) : vx_L C n d A U H1 := by
  obtain ⟨c, k, i, f, a, cell, h1, h2, h3, h4, h5, h6, h7, h8, h9, h10⟩ := h
  exact ⟨c, k, i, f, a, cell, h1, h2, h3, h4, by rw [hq a (Array.getElem?_eq_some_iff.mp h5).1 h10]; exact h5, h6, h7, h8, h9, h10⟩
theorem vx_L.narrow {C n d : String} {A B : Nat → Prop} {U : State} {H : Heap} (h : vx_L C n d A U H) (hAB : ∀ q, B q → A q) : vx_L C n d B U H := by
  obtain ⟨c, k, i, f, a, cell, h1, h2, h3, h4, h5, h6, h7, h8, h9, h10⟩ := h
  exact ⟨c, k, i, f, a, cell, h1, h2, h3, h4, h5, h6, h7, h8, h9, fun z => h10 (hAB _ z)⟩
theorem vx_L.word {C n d : String} {A : Nat → Prop} {s : State} {args : Array Value} (h : vx_L C n d A s s.heap) : (Cond.laysStatic C n d).before args s = true := by
  obtain ⟨c, k, i, f, a, cell, h1, h2, h3, h4, h5, h6, h7, h8, h9, -⟩ := h
  show (Cond.laysStatic C n d).holds args s none s [] = true
  exact Cond.laysStatic_of h1 h2 h3 h4 h5 h6 h7 h8 h9
/-- .. and what it holds: null or some reference -/
def vx_Zq (C n d : String) (A : Nat → Prop) (U : State) (H : Heap) : Prop := va_Zq C n d A U H ∧ vx_L C n d A U H
theorem vx_Zq.moved {C n d : String} {A : Nat → Prop} {u U : State} {H : Heap} (hvm : u.vm.Alike U.vm) (h : vx_Zq C n d A u H) : vx_Zq C n d A U H := ⟨va_Zq.moved hvm h.1, vx_L.moved hvm h.2⟩
theorem vx_Zq.kept {C n d : String} {A : Nat → Prop} {U : State} {H H1 : Heap} (h : vx_Zq C n d A U H) (hq : ∀ a : Nat, a < H.size → ¬ A a → H1[a]? = H[a]?) : vx_Zq C n d A U H1 := ⟨va_Zq.kept h.1 hq, vx_L.kept h.2 hq⟩
theorem vx_Zq.narrow {C n d : String} {A B : Nat → Prop} {U : State} {H : Heap} (h : vx_Zq C n d A U H) (hAB : ∀ q, B q → A q) : vx_Zq C n d B U H := ⟨va_Zq.narrow h.1 hAB, vx_L.narrow h.2 hAB⟩
theorem vx_Zqof {args : Array Value} {s : State} {C n d : String} {A : Nat → Prop} (hl : (Cond.laysStatic C n d).before args s = true) (hini : (Cond.initialized C).before args s = true) (h : (Cond.isRef (.static C n d)).before args s = true) (hA : ∀ a : Nat, a < s.heap.size → ¬ A a) : vx_Zq C n d A s s.heap := by
  refine ⟨va_Zqof hl hini h hA, ?_⟩
  obtain ⟨c, k, i, f, a, cell, h1, h2, h3, h4, h5, h6, h7, h8, h9⟩ := Cond.laysStatic_spec hl
  exact ⟨c, k, i, f, a, cell, h1, h2, h3, h4, h5, h6, h7, h8, h9, hA a (Array.getElem?_eq_some_iff.mp h5).1⟩
theorem vx_isRef {C n d : String} {v : Value} {A : Nat → Prop} {s : State} {args : Array Value} (h : va_Z C n d v A s s.heap) (hv : v.isRef = true) : (Cond.isRef (.static C n d)).before args s = true := by
  obtain ⟨cf, kf, fi, f, a, cell, h1, h2, h3, h4, h5, h6, h7, -⟩ := h
  have he : (Term.static C n d).eval args s none [] s = some v := by
    simp [Term.eval, State.fieldNamed?, h1, h2, h4, h5, h6, h7]
  simp only [Cond.before, Cond.holds, Cond.value, he]
  cases v <;> simp_all [Value.isRef]
theorem vx_isRefq {C n d : String} {A : Nat → Prop} {s : State} {args : Array Value} (h : va_Zq C n d A s s.heap) : (Cond.isRef (.static C n d)).before args s = true := by
  rcases h with h | ⟨t, h⟩
  · exact vx_isRef h rfl
  · exact vx_isRef h rfl
/-- the same frame, seen from here: as if the method were called anew in this heap -/
theorem vx_rebase {T : State} (X : Stand p l e R s m args below meth c T locs cells slots) {R' : Room} (hf : R'.frames ≤ R.frames) (hl : R'.locals ≤ R.locals) (hc : cells + R'.cells ≤ R.cells) (hs : slots + R'.slots ≤ R.slots) :
    Stand p l e R' ((T.setVm s.vm).setFrames (.invoking m args :: below)) m args below meth c T [] 0 0 := by
  have htop : (T.setVm s.vm).topJava?.isSome := X.here.top
  have hF : ((T.setVm s.vm).setFrames (.invoking m args :: below)).frames = .invoking m args :: below := State.frames_setFrames _ (State.cur_lt_of_top htop)
  obtain ⟨g₀, hg0⟩ := Option.isSome_iff_exists.mp htop
  obtain ⟨r, hr⟩ := State.topJava?_eq_some.mp hg0
  have hl9 : e.platform.stackLimits (T.setVm s.vm).me = e.platform.stackLimits s.me := X.limits
  have hb9 : (T.setVm s.vm).me.stackBytes = s.me.stackBytes := X.bytes
  refine ⟨X.admits, X.cas, X.clock, hF, ?_, X.hears, X.method, X.code, X.here, X.tail, X.warmed, ?_, ?_, ?_⟩
  · have h := X.room
    have hU : ((T.setVm s.vm).setFrames (.invoking m args :: below)).localsInUse = s.localsInUse := by
      rw [State.localsInUse_invoking hF (meth := meth) (c := c) X.method X.code, State.localsInUse_invoking X.frames X.method X.code]
    simp only [State.hasRoom, Bool.and_eq_true, decide_eq_true_eq] at h ⊢
    obtain ⟨⟨⟨⟨h1, h2, h3, h4, h5, h6⟩, h7⟩, h8⟩, h9⟩ := h
    rw [X.frames, List.length_cons] at h2 h3
    have q1 := X.heapSize
    have q2 := X.used
    simp only [hF, hU, List.length_cons, State.stackLimits_setFrames, State.stackBytes_setFrames, hl9, hb9]
    refine ⟨⟨⟨⟨by omega, by omega, by omega, by omega, by omega, h6⟩, ?_⟩, ?_⟩, X.book⟩
    · show T.heap.size + R'.cells ≤ e.platform.maxCells
      omega
    · show T.slotsUsed + R'.slots ≤ e.platform.maxSlots
      omega
  · rw [State.stackLimits_setFrames]; rfl
  · rw [State.stackBytes_setFrames]; rfl
  · refine ⟨?_, Nat.le_refl _, Nat.le_refl _, ?_, ?_, fun a c9 h9 => ⟨c9, h9, rfl, rfl, fun _ _ => rfl⟩⟩
    · obtain ⟨t, ht, -⟩ := State.frames_cons hr
      show T.setVm s.vm = { ((T.setVm s.vm).setFrames (.invoking m args :: below)).setFrames (T.setVm s.vm).frames with heap := T.heap, slotsUsed := T.slotsUsed }
      rw [State.setFrames_setFrames, State.setFrames_self ht]
      rfl
    · show T.slotsUsed = T.slotsUsed + ((T.heap.toList.drop T.heap.size).map (·.slots.size)).sum
      rw [List.drop_eq_nil_of_le (Nat.le_of_eq Array.length_toList)]
      rfl
    · show ((T.heap.toList.drop T.heap.size).map (·.slots.size)).sum ≤ 0
      rw [List.drop_eq_nil_of_le (Nat.le_of_eq Array.length_toList)]
      exact Nat.le_refl _
/-- 'throw new E()': new; dup; invokespecial; athrow -/
theorem vx_throw0 {cc : ByteArray} {pc : Nat} (hexec : p.tables.exec = Jvm.exec) (hb : c.code = cc) (hl : l.stackTraces = false) {own cls : String} {names : List String} {ik ic mc ms : Nat} {A : Nat → Prop}
    (hown : s.vm.findClass own = some m.cls) (hcls : Bundle.fit cls = true) (hnames : ∀ n ∈ names, Bundle.fit n = true)
    (hk : (Cond.classLink own ik cls).before args s = true) (hini : (Cond.initialized cls).before args s = true) (hat : ∀ w ∈ vx_at0 own ic cls names, w.before args s = true)
    (hgood : ∀ w ∈ Cond.classLink own ik cls :: Cond.initialized cls :: vx_at0 own ic cls names, vx_ot w = true)
    (hU : vx_Zq Bundle.tN "UNASSIGNED_STACK" Bundle.steD A s s.heap) (hN : vx_Zq Bundle.tN "SUPPRESSED_SENTINEL" Bundle.listD A s s.heap) (hS : va_S A s.heap H locs) (hsize : ls.size = c.maxLocals)
    (d0 : decode cc pc = .ok (.new ik, 3)) (d3 : decode cc (pc + 3) = .ok (.dup, 1)) (d4 : decode cc (pc + 4) = .ok (.invokespecial ic, 3)) (d7 : decode cc (pc + 7) = .ok (.athrow, 1))
    (hout : ∀ x ∈ c.exceptionTable.toList, covers x (pc + 7) = false)
    (hRframes : names.length + 3 < R.frames) (hRlocals : (rest.map fun v => v.category).sum + (13 * (names.length + 1) + 42) ≤ R.locals) (hRcells : cells + 1 ≤ R.cells) (hRslots : slots + 6 ≤ R.slots) (hlocks : meth.locks = false)
    (hx : ∀ t : State, s.vm.Alike t.vm → H.size ≤ t.heap.size → (∀ q : Nat, q < H.size → t.heap[q]? = H[q]?) → XC cls s t)
    (hf : ∀ z ∈ locs, free z.base) (hc : cells + 1 ≤ mc) (hs : slots + 6 ≤ ms) :
    W p l e R s m args below meth c H locs cells slots (vx_MQ below Qc XC args s mc ms free) (F0 m pc ls rest) := by
  intro T hT X
  have htr : e.platform.stackTraces = false := (show e.platform.stackTraces = l.stackTraces by rw [X.admits.platform]).trans hl
  have Y := vx_rebase X (R' := { frames := R.frames, locals := R.locals, cells := 1, slots := 6 }) (Nat.le_refl _) (Nat.le_refl _) hRcells hRslots
  obtain ⟨s', hA⟩ : ∃ z, z = (T.setVm s.vm).setFrames (.invoking m args :: below) := ⟨_, rfl⟩
  rw [← hA] at Y
  have hvm : s'.vm = s.vm := by rw [hA]; rfl
  have hhp : s'.heap = H := by rw [hA]; exact hT
  have hW0 : s.WarmedH s'.vm := by rw [hvm]; exact State.WarmedH.refl s
  have hat' : ∀ w ∈ vx_at0 own ic cls names, w.before args s' = true := fun w hw => vx_ot_at hW0 hvm.symm (hgood w (List.mem_cons_of_mem _ (List.mem_cons_of_mem _ hw))) (hat w hw)
  have hk' : (Cond.classLink own ik cls).before args s' = true := vx_ot_at hW0 hvm.symm (hgood _ List.mem_cons_self) hk
  have hini' : (Cond.initialized cls).before args s' = true := vx_ot_at hW0 hvm.symm (hgood _ (List.mem_cons_of_mem _ List.mem_cons_self)) hini
  have hU' : vx_Zq Bundle.tN "UNASSIGNED_STACK" Bundle.steD A s' s'.heap := by rw [hhp]; exact vx_Zq.moved hW0.alike (hU.kept hS.2.1)
  have hN' : vx_Zq Bundle.tN "SUPPRESSED_SENTINEL" Bundle.listD A s' s'.heap := by rw [hhp]; exact vx_Zq.moved hW0.alike (hN.kept hS.2.1)
  have h : ∀ w ∈ Bundle.ownAtoms0 own ic cls names, w.before args s' = true := vx_own hat' (vx_isRefq hU'.1) (vx_isRefq hN'.1) hU'.2.word hN'.2.word
  have hown' : s'.vm.findClass own = some m.cls := by rw [hvm]; exact hown
  have hins : (Cond.instantiable cls 6).before args s' = true := h _ (by simp [Bundle.ownAtoms0])
  obtain ⟨vm₁, cX, kX, hfX, hkX, -, -, X₁, st1⟩ := Y.newCold hexec (own := own) (C := cls) (index := ik) (n := 6) hown' hk' hins hini'
    (g := F0 m pc ls rest) rfl (by rw [hb]; exact d0) (Nat.le_refl _) (Nat.le_refl _)
  generalize hT1 : (T.setVm vm₁).pushCell { cls := cX, slots := kX.instanceTypes.map defaultValue, vm := .none } = T1 at X₁ st1
  have hcat : (Value.ref T.heap.size).category = 1 := rfl
  have hcellA : T1.heap[T.heap.size]? = some (freshCell cX kX) := by rw [← hT1]; exact State.heap_pushCell_size _ _
  have d3' : decode c.code (pc + 3) = .ok (.dup, 1) := by rw [hb]; exact d3
  obtain ⟨U, hsteps, hrun, hend, hW, hsame, ce, hce, hO⟩ := X₁.ctorThrow0 hexec htr (own := own) (cls := cls) (names := names) (ic := ic) hown' hcls hnames h (fun x hx => nomatch hx) hfX hkX hcellA (by rw [hhp, hT]; exact Nat.le_refl _)
    (g := { method := m, pc := pc + 4, locals := ls, stack := .ref T.heap.size :: .ref T.heap.size :: rest, locked := none }) rfl hsize rfl rfl (rest := rest) rfl
    (by rw [hb]; exact d4) (by rw [hb]; exact d7) hout hRframes (by simp only [List.map_cons, List.sum_cons, hcat]; omega) hlocks
  obtain ⟨f1, f2⟩ := vx_frame hsame
  rw [hhp] at f1 f2
  have hWs : s.WarmedH U.vm := State.WarmedH.trans hW0 hW
  have hcl : s.vm.findClass cls = some ce.cls := by
    have h9 := hO.cls
    rw [hvm] at h9
    exact h9
  have hall : s.sameButNew ({ U with vm := s.vm } : State) locs mc ms := by
    subst hA
    obtain ⟨e1, e2⟩ := hsame
    rw [State.setFrames_setFrames] at e1
    have h2 : (T.setVm s.vm).sameButNew ({ U with vm := s.vm } : State) [] (0 + 1) (0 + 6) := ⟨e1, e2⟩
    have h3 := X.same.trans h2
    rw [List.append_nil] at h3
    exact h3.mono hc hs
  refine ⟨U, ?_, .threw T.heap.size, hrun, hend, Or.inr ⟨T.heap.size, rfl, cls, ce, locs, hx U hWs.alike f1 (fun q hq => f2 q hq (fun z hz => nomatch hz)), hce, hO.vm, hcl, hWs, hall, hf⟩⟩
  refine st1 _ ?_
  show Steps p.tables e below (T1.setTop { method := m, pc := pc + 3, locals := ls, stack := .ref T.heap.size :: rest, locked := none }) _
  jvm_step X₁.here [X₁.here.top, hexec, d3', Value.category]
  exact hsteps
/-- 'throw new E("text")': new; dup; ldc; invokespecial; athrow -/
theorem vx_throwS {cc : ByteArray} {pc : Nat} (hexec : p.tables.exec = Jvm.exec) (hb : c.code = cc) (hl : l.stackTraces = false) {own cls text : String} {names : List String} {ik is ic mc ms sa : Nat} {A : Nat → Prop}
    (hown : s.vm.findClass own = some m.cls) (hcls : Bundle.fit cls = true) (hnames : ∀ n ∈ names, Bundle.fit n = true)
    (hk : (Cond.classLink own ik cls).before args s = true) (hini : (Cond.initialized cls).before args s = true) (hstr : vk_R own is text sa s) (hat : ∀ w ∈ vx_atS own ic cls names, w.before args s = true)
    (hgood : ∀ w ∈ Cond.classLink own ik cls :: Cond.initialized cls :: vx_atS own ic cls names, vx_ot w = true)
    (hU : vx_Zq Bundle.tN "UNASSIGNED_STACK" Bundle.steD A s s.heap) (hN : vx_Zq Bundle.tN "SUPPRESSED_SENTINEL" Bundle.listD A s s.heap) (hS : va_S A s.heap H locs) (hsize : ls.size = c.maxLocals)
    (d0 : decode cc pc = .ok (.new ik, 3)) (d3 : decode cc (pc + 3) = .ok (.dup, 1)) (d4 : decode cc (pc + 4) = .ok (.ldc is, 2)) (d6 : decode cc (pc + 6) = .ok (.invokespecial ic, 3)) (d9 : decode cc (pc + 9) = .ok (.athrow, 1))
    (hout : ∀ x ∈ c.exceptionTable.toList, covers x (pc + 9) = false)
    (hRframes : names.length + 3 < R.frames) (hRlocals : (rest.map fun v => v.category).sum + (13 * (names.length + 1) + 43) ≤ R.locals) (hRcells : cells + 1 ≤ R.cells) (hRslots : slots + 6 ≤ R.slots) (hlocks : meth.locks = false)
    (hx : ∀ t : State, s.vm.Alike t.vm → H.size ≤ t.heap.size → (∀ q : Nat, q < H.size → t.heap[q]? = H[q]?) → XC cls s t)
    (hf : ∀ z ∈ locs, free z.base) (hc : cells + 1 ≤ mc) (hs : slots + 6 ≤ ms) :
    W p l e R s m args below meth c H locs cells slots (vx_MQ below Qc XC args s mc ms free) (F0 m pc ls rest) := by
  intro T hT X
  have htr : e.platform.stackTraces = false := (show e.platform.stackTraces = l.stackTraces by rw [X.admits.platform]).trans hl
  have Y := vx_rebase X (R' := { frames := R.frames, locals := R.locals, cells := 1, slots := 6 }) (Nat.le_refl _) (Nat.le_refl _) hRcells hRslots
  obtain ⟨s', hA⟩ : ∃ z, z = (T.setVm s.vm).setFrames (.invoking m args :: below) := ⟨_, rfl⟩
  rw [← hA] at Y
  have hvm : s'.vm = s.vm := by rw [hA]; rfl
  have hhp : s'.heap = H := by rw [hA]; exact hT
  have hW0 : s.WarmedH s'.vm := by rw [hvm]; exact State.WarmedH.refl s
  have hat' : ∀ w ∈ vx_atS own ic cls names, w.before args s' = true := fun w hw => vx_ot_at hW0 hvm.symm (hgood w (List.mem_cons_of_mem _ (List.mem_cons_of_mem _ hw))) (hat w hw)
  have hk' : (Cond.classLink own ik cls).before args s' = true := vx_ot_at hW0 hvm.symm (hgood _ List.mem_cons_self) hk
  have hini' : (Cond.initialized cls).before args s' = true := vx_ot_at hW0 hvm.symm (hgood _ (List.mem_cons_of_mem _ List.mem_cons_self)) hini
  have hU' : vx_Zq Bundle.tN "UNASSIGNED_STACK" Bundle.steD A s' s'.heap := by rw [hhp]; exact vx_Zq.moved hW0.alike (hU.kept hS.2.1)
  have hN' : vx_Zq Bundle.tN "SUPPRESSED_SENTINEL" Bundle.listD A s' s'.heap := by rw [hhp]; exact vx_Zq.moved hW0.alike (hN.kept hS.2.1)
  have h : ∀ w ∈ Bundle.ownAtoms own ic cls names, w.before args s' = true := vx_own hat' (vx_isRefq hU'.1) (vx_isRefq hN'.1) hU'.2.word hN'.2.word
  have hown' : s'.vm.findClass own = some m.cls := by rw [hvm]; exact hown
  have hins : (Cond.instantiable cls 6).before args s' = true := h _ (by simp [Bundle.ownAtoms])
  obtain ⟨vm₁, cX, kX, hfX, hkX, -, -, X₁, st1⟩ := Y.newCold hexec (own := own) (C := cls) (index := ik) (n := 6) hown' hk' hins hini'
    (g := F0 m pc ls rest) rfl (by rw [hb]; exact d0) (Nat.le_refl _) (Nat.le_refl _)
  generalize hT1 : (T.setVm vm₁).pushCell { cls := cX, slots := kX.instanceTypes.map defaultValue, vm := .none } = T1 at X₁ st1
  have hcat : (Value.ref T.heap.size).category = 1 := rfl
  have hcellA : T1.heap[T.heap.size]? = some (freshCell cX kX) := by rw [← hT1]; exact State.heap_pushCell_size _ _
  have d3' : decode c.code (pc + 3) = .ok (.dup, 1) := by rw [hb]; exact d3
  have d4' : decode c.code (pc + 4) = .ok (.ldc is, 2) := by rw [hb]; exact d4
  have hstr' : vk_R own is text sa s' := vk_R.warm hW0 hstr
  obtain ⟨U, hsteps, hrun, hend, hW, hsame, ce, hce, hO⟩ := X₁.ctorThrowS hexec htr (own := own) (cls := cls) (names := names) (ic := ic) hown' hcls hnames h (fun x hx => nomatch hx) hfX hkX hcellA (by rw [hhp, hT]; exact Nat.le_refl _) (msg := .ref sa) rfl
    (g := { method := m, pc := pc + 6, locals := ls, stack := .ref sa :: .ref T.heap.size :: .ref T.heap.size :: rest, locked := none }) rfl hsize rfl rfl (rest := rest) rfl
    (by rw [hb]; exact d6) (by rw [hb]; exact d9) hout hRframes (by simp only [List.map_cons, List.sum_cons, hcat]; omega) hlocks
  obtain ⟨f1, f2⟩ := vx_frame hsame
  rw [hhp] at f1 f2
  have hWs : s.WarmedH U.vm := State.WarmedH.trans hW0 hW
  have hcl : s.vm.findClass cls = some ce.cls := by
    have h9 := hO.cls
    rw [hvm] at h9
    exact h9
  have hall : s.sameButNew ({ U with vm := s.vm } : State) locs mc ms := by
    subst hA
    obtain ⟨e1, e2⟩ := hsame
    rw [State.setFrames_setFrames] at e1
    have h2 : (T.setVm s.vm).sameButNew ({ U with vm := s.vm } : State) [] (0 + 1) (0 + 6) := ⟨e1, e2⟩
    have h3 := X.same.trans h2
    rw [List.append_nil] at h3
    exact h3.mono hc hs
  refine ⟨U, ?_, .threw T.heap.size, hrun, hend, Or.inr ⟨T.heap.size, rfl, cls, ce, locs, hx U hWs.alike f1 (fun q hq => f2 q hq (fun z hz => nomatch hz)), hce, hO.vm, hcl, hWs, hall, hf⟩⟩
  refine st1 _ ?_
  show Steps p.tables e below (T1.setTop { method := m, pc := pc + 3, locals := ls, stack := .ref T.heap.size :: rest, locked := none }) _
  jvm_step X₁.here [X₁.here.top, hexec, d3', Value.category]
  exact X₁.ldcString hexec (own := own) (text := text) (index := is) (a := sa) hown' hstr'.1 hstr'.2
    (g := { method := m, pc := pc + 4, locals := ls, stack := .ref T.heap.size :: .ref T.heap.size :: rest, locked := none }) rfl d4' _ hsteps
/-- 'throw new E("text")', the text by a wide index -/
theorem vx_throwSW {cc : ByteArray} {pc : Nat} (hexec : p.tables.exec = Jvm.exec) (hb : c.code = cc) (hl : l.stackTraces = false) {own cls text : String} {names : List String} {ik is ic mc ms sa : Nat} {A : Nat → Prop}
    (hown : s.vm.findClass own = some m.cls) (hcls : Bundle.fit cls = true) (hnames : ∀ n ∈ names, Bundle.fit n = true)
    (hk : (Cond.classLink own ik cls).before args s = true) (hini : (Cond.initialized cls).before args s = true) (hstr : vk_R own is text sa s) (hat : ∀ w ∈ vx_atS own ic cls names, w.before args s = true)
    (hgood : ∀ w ∈ Cond.classLink own ik cls :: Cond.initialized cls :: vx_atS own ic cls names, vx_ot w = true)
    (hU : vx_Zq Bundle.tN "UNASSIGNED_STACK" Bundle.steD A s s.heap) (hN : vx_Zq Bundle.tN "SUPPRESSED_SENTINEL" Bundle.listD A s s.heap) (hS : va_S A s.heap H locs) (hsize : ls.size = c.maxLocals)
    (d0 : decode cc pc = .ok (.new ik, 3)) (d3 : decode cc (pc + 3) = .ok (.dup, 1)) (d4 : decode cc (pc + 4) = .ok (.ldc_w is, 3)) (d7 : decode cc (pc + 7) = .ok (.invokespecial ic, 3)) (d10 : decode cc (pc + 10) = .ok (.athrow, 1))
    (hout : ∀ x ∈ c.exceptionTable.toList, covers x (pc + 10) = false)
    (hRframes : names.length + 3 < R.frames) (hRlocals : (rest.map fun v => v.category).sum + (13 * (names.length + 1) + 43) ≤ R.locals) (hRcells : cells + 1 ≤ R.cells) (hRslots : slots + 6 ≤ R.slots) (hlocks : meth.locks = false)
    (hx : ∀ t : State, s.vm.Alike t.vm → H.size ≤ t.heap.size → (∀ q : Nat, q < H.size → t.heap[q]? = H[q]?) → XC cls s t)
    (hf : ∀ z ∈ locs, free z.base) (hc : cells + 1 ≤ mc) (hs : slots + 6 ≤ ms) :
    W p l e R s m args below meth c H locs cells slots (vx_MQ below Qc XC args s mc ms free) (F0 m pc ls rest) := by
  intro T hT X
  have htr : e.platform.stackTraces = false := (show e.platform.stackTraces = l.stackTraces by rw [X.admits.platform]).trans hl
  have Y := vx_rebase X (R' := { frames := R.frames, locals := R.locals, cells := 1, slots := 6 }) (Nat.le_refl _) (Nat.le_refl _) hRcells hRslots
  obtain ⟨s', hA⟩ : ∃ z, z = (T.setVm s.vm).setFrames (.invoking m args :: below) := ⟨_, rfl⟩
  rw [← hA] at Y
  have hvm : s'.vm = s.vm := by rw [hA]; rfl
  have hhp : s'.heap = H := by rw [hA]; exact hT
  have hW0 : s.WarmedH s'.vm := by rw [hvm]; exact State.WarmedH.refl s
  have hat' : ∀ w ∈ vx_atS own ic cls names, w.before args s' = true := fun w hw => vx_ot_at hW0 hvm.symm (hgood w (List.mem_cons_of_mem _ (List.mem_cons_of_mem _ hw))) (hat w hw)
  have hk' : (Cond.classLink own ik cls).before args s' = true := vx_ot_at hW0 hvm.symm (hgood _ List.mem_cons_self) hk
  have hini' : (Cond.initialized cls).before args s' = true := vx_ot_at hW0 hvm.symm (hgood _ (List.mem_cons_of_mem _ List.mem_cons_self)) hini
  have hU' : vx_Zq Bundle.tN "UNASSIGNED_STACK" Bundle.steD A s' s'.heap := by rw [hhp]; exact vx_Zq.moved hW0.alike (hU.kept hS.2.1)
  have hN' : vx_Zq Bundle.tN "SUPPRESSED_SENTINEL" Bundle.listD A s' s'.heap := by rw [hhp]; exact vx_Zq.moved hW0.alike (hN.kept hS.2.1)
  have h : ∀ w ∈ Bundle.ownAtoms own ic cls names, w.before args s' = true := vx_own hat' (vx_isRefq hU'.1) (vx_isRefq hN'.1) hU'.2.word hN'.2.word
  have hown' : s'.vm.findClass own = some m.cls := by rw [hvm]; exact hown
  have hins : (Cond.instantiable cls 6).before args s' = true := h _ (by simp [Bundle.ownAtoms])
  obtain ⟨vm₁, cX, kX, hfX, hkX, -, -, X₁, st1⟩ := Y.newCold hexec (own := own) (C := cls) (index := ik) (n := 6) hown' hk' hins hini'
    (g := F0 m pc ls rest) rfl (by rw [hb]; exact d0) (Nat.le_refl _) (Nat.le_refl _)
  generalize hT1 : (T.setVm vm₁).pushCell { cls := cX, slots := kX.instanceTypes.map defaultValue, vm := .none } = T1 at X₁ st1
  have hcat : (Value.ref T.heap.size).category = 1 := rfl
  have hcellA : T1.heap[T.heap.size]? = some (freshCell cX kX) := by rw [← hT1]; exact State.heap_pushCell_size _ _
  have d3' : decode c.code (pc + 3) = .ok (.dup, 1) := by rw [hb]; exact d3
  have d4' : decode c.code (pc + 4) = .ok (.ldc_w is, 3) := by rw [hb]; exact d4
  have hstr' : vk_R own is text sa s' := vk_R.warm hW0 hstr
  obtain ⟨U, hsteps, hrun, hend, hW, hsame, ce, hce, hO⟩ := X₁.ctorThrowS hexec htr (own := own) (cls := cls) (names := names) (ic := ic) hown' hcls hnames h (fun x hx => nomatch hx) hfX hkX hcellA (by rw [hhp, hT]; exact Nat.le_refl _) (msg := .ref sa) rfl
    (g := { method := m, pc := pc + 7, locals := ls, stack := .ref sa :: .ref T.heap.size :: .ref T.heap.size :: rest, locked := none }) rfl hsize rfl rfl (rest := rest) rfl
    (by rw [hb]; exact d7) (by rw [hb]; exact d10) hout hRframes (by simp only [List.map_cons, List.sum_cons, hcat]; omega) hlocks
  obtain ⟨f1, f2⟩ := vx_frame hsame
  rw [hhp] at f1 f2
  have hWs : s.WarmedH U.vm := State.WarmedH.trans hW0 hW
  have hcl : s.vm.findClass cls = some ce.cls := by
    have h9 := hO.cls
    rw [hvm] at h9
    exact h9
  have hall : s.sameButNew ({ U with vm := s.vm } : State) locs mc ms := by
    subst hA
    obtain ⟨e1, e2⟩ := hsame
    rw [State.setFrames_setFrames] at e1
    have h2 : (T.setVm s.vm).sameButNew ({ U with vm := s.vm } : State) [] (0 + 1) (0 + 6) := ⟨e1, e2⟩
    have h3 := X.same.trans h2
    rw [List.append_nil] at h3
    exact h3.mono hc hs
  refine ⟨U, ?_, .threw T.heap.size, hrun, hend, Or.inr ⟨T.heap.size, rfl, cls, ce, locs, hx U hWs.alike f1 (fun q hq => f2 q hq (fun z hz => nomatch hz)), hce, hO.vm, hcl, hWs, hall, hf⟩⟩
  refine st1 _ ?_
  show Steps p.tables e below (T1.setTop { method := m, pc := pc + 3, locals := ls, stack := .ref T.heap.size :: rest, locked := none }) _
  jvm_step X₁.here [X₁.here.top, hexec, d3', Value.category]
  exact X₁.ldcStringW hexec (own := own) (text := text) (index := is) (a := sa) hown' hstr'.1 hstr'.2
    (g := { method := m, pc := pc + 4, locals := ls, stack := .ref T.heap.size :: .ref T.heap.size :: rest, locked := none }) rfl d4' _ hsteps
end Ends
section Bodies
variable {l : Launch}
theorem vx_ofW {y : MethodName} {ws ws' : List Cond} {rm : Room} {Pc : Array Value → State → Prop} {Qc : Array Value → State → Outcome → State → Prop} {XC : String → State → State → Prop} {mc ms : Nat} {free : Addr → Prop} {cc : ByteArray} {maxL : Nat} {ret : Option FieldType}
    (hy : plainName y.cls = true) (hw : ws = Cond.code y cc maxL ret :: ws')
    (body : ∀ p e s m args below meth c s₁, BodyLoose p l y (headSpec ws rm) cc maxL ret e s m args below meth c s₁ → c.maxLocals = maxL → (∀ x ∈ c.exceptionTable.toList, False) → Pc args s →
      W p l e (headSpec ws rm).room s m args below meth c s.heap [] 0 0 (vx_MQ below Qc XC args s mc ms free) (entryFrame m args maxL)) : vx_Met l y ws rm Pc Qc XC mc ms free := by
  refine MetFree.of_bodyS (code := cc) (maxLocals := maxL) (ret := ret) hy ?_ ?_
  · intro args s m h hn
    obtain ⟨meth, c, h1, h2, h3, h4, h5, h6, -, -⟩ := Cond.code_spec hn (atoms_spec (ws := ws) h _ (by rw [hw]; exact List.mem_cons_self))
    exact ⟨meth, c, h1, h2, h3, h4, h5, h6⟩
  · intro p e s m args below meth c s₁ B hml hP _
    have hh0 : s₁.heap = s.heap := by rw [B.state]; rfl
    have ht : ∀ x ∈ c.exceptionTable.toList, False := by
      obtain ⟨meth9, c9, h1, h2, -, -, -, -, h7, -⟩ := Cond.code_spec B.named (atoms_spec (ws := ws) B.pre _ (by rw [hw]; exact List.mem_cons_self))
      cases Option.some.inj (h1.symm.trans B.method)
      cases Option.some.inj (h2.symm.trans (Stand.of_body B).code)
      intro x hx
      rw [Array.isEmpty_iff.mp h7] at hx
      cases hx
    obtain ⟨t, a1, o, b1, b2, b3⟩ := body p e s m args below meth c s₁ B hml ht hP s₁ hh0 (Stand.of_body B)
    exact ⟨t, o, a1, b1, b2, b3⟩
/-- the table of a body with handlers -/
theorem vx_table {p : Program} {x y : MethodName} {S : Spec} {cc bytes : ByteArray} {maxL maxL' : Nat} {ret ret' : Option FieldType} {e : Env} {s s₁ : State} {m : MethodId} {args : Array Value} {below : List Frame} {meth : Method} {c : Code} {hh : List (Nat × Nat × Nat × Nat)}
    (B : BodyLoose p l y S cc maxL ret e s m args below meth c s₁) (h : (Cond.codeWith y bytes maxL' ret' hh).before args s = true) : c.exceptionTable.toList = tableOf hh := by
  obtain ⟨m9, meth9, c9, hn9, h1, h2, -, -, h6, -⟩ := Cond.codeWith_spec h
  cases Option.some.inj (hn9.symm.trans B.named)
  cases Option.some.inj (h1.symm.trans B.method)
  cases Option.some.inj (h2.symm.trans (Stand.of_body B).code)
  rw [← h6, table_eq]
end Bodies
end VXA
/-! ===== END ===== -/
/-! ===== BEGIN a static call of a method with an exception table ===== -/
section VXS
variable {p : Program} {l : Launch} {e : Env} {R : Room} {s : State} {m : MethodId} {args : Array Value} {below : List Frame} {meth : Method} {c : Code} {T : State} {H : Heap} {locs : List Loc} {cells slots : Nat}
abbrev vx_CSW (R : Room) (s : State) (args : Array Value) (own : String) (index : Nat) (y : MethodName) (bytes : ByteArray) (maxL : Nat) (ret : Option FieldType) (hh : List (Nat × Nat × Nat × Nat)) (ws : List Cond) (rm : Room) (mc ms n : Nat) : Prop :=
  (rm.cells = mc ∧ rm.slots = ms ∧ rm.frames + 1 ≤ R.frames ∧ 8 + (maxL + 11) + rm.locals ≤ R.locals ∧ (∀ w ∈ ws, ∀ (a' : Array Value) (U : State), s.WarmedH U.vm → w.before a' U = true) ∧ Cond.codeWith y bytes maxL ret hh ∈ ws) ∧
  (Cond.codeWith y bytes maxL ret hh).before args s = true ∧ (Cond.initialized y.cls).before args s = true ∧ (y.cls ≠ "java/lang/invoke/MethodHandle" ∧ y.cls ≠ "java/lang/invoke/VarHandle") ∧
  (∀ sig, parseMethodDescriptor y.desc = some sig → n = sig.parameters.length) ∧ (Cond.methodLink own index y).before args s = true ∧ (Cond.static y).before args s = true
theorem vx_cwSW {own : String} {index maxL mc ms : Nat} {y : MethodName} {bytes : ByteArray} {ret : Option FieldType} {hh : List (Nat × Nat × Nat × Nat)} {Ts ws ws' : List Cond} {rm : Room} (n : Nat) (ht : ∀ w ∈ Ts, w.before args s = true) (hT : GoodIn Ts (va_wsS own index y ws)) (hw : ws = Cond.codeWith y bytes maxL ret hh :: ws') (hrc : rm.cells = mc) (hrs : rm.slots = ms)
    (hd : y.cls ≠ "java/lang/invoke/MethodHandle" ∧ y.cls ≠ "java/lang/invoke/VarHandle" ∧ (parseMethodDescriptor y.desc).map (fun d => d.parameters.length) = some n) (hR : rm.frames + 1 ≤ R.frames ∧ 8 + (maxL + 11) + rm.locals ≤ R.locals) :
    vx_CSW R s args own index y bytes maxL ret hh ws rm mc ms n := by
  have ok : ∀ w ∈ va_wsS own index y ws, w.before args s = true := fun w h => ht w (hT w h).1
  have hG : GoodIn Ts ws := fun w h => hT w (by unfold va_wsS; exact List.mem_append_right _ h)
  have hc : Cond.codeWith y bytes maxL ret hh ∈ ws := by rw [hw]; exact List.mem_cons_self
  refine ⟨⟨hrc, hrs, hR.1, hR.2, pay_in ht hG, hc⟩, ht _ (hG _ hc).1, ok _ (by simp [va_wsS]), ⟨hd.1, hd.2.1⟩, fun sig h => ?_, ok _ (by simp [va_wsS]), ok _ (by simp [va_wsS])⟩
  have h2 := hd.2.2
  rw [h] at h2
  exact (Option.some.inj h2).symm
theorem vx_callSW (X : Stand p l e R s m args below meth c T locs cells slots) (hexec : p.tables.exec = Jvm.exec) {own : String} {index : Nat} {y : MethodName} {bytes : ByteArray} {maxL : Nat} {ret : Option FieldType} {hh : List (Nat × Nat × Nat × Nat)}
    (hown : s.vm.findClass own = some m.cls) (hlink : (Cond.methodLink own index y).before args s = true) (hstat : (Cond.static y).before args s = true) (hinit : (Cond.initialized y.cls).before args s = true)
    (hcode : (Cond.codeWith y bytes maxL ret hh).before args s = true) (hy : y.cls ≠ "java/lang/invoke/MethodHandle" ∧ y.cls ≠ "java/lang/invoke/VarHandle")
    {W9 : Nat} {Pre : Pt → Array Value → Prop} {Post : Pt → Array Value → Option Value → Pt → Prop} (hK : Back l R p e below s args y 3 W9 Pre Post)
    {g : JFrame} (hg : g.method = m) (hsize : g.locals.size = c.maxLocals) {argsL rest : List Value} (hlen : ∀ sig, parseMethodDescriptor y.desc = some sig → argsL.length = sig.parameters.length)
    (hstack : g.stack = argsL.reverse ++ rest) (hW : 2 * g.monitorRoom + (rest.map fun v => v.category).sum ≤ W9) (hdg : decode c.code g.pc = .ok (.invokestatic index, 3))
    (hpre : ∀ vm₁, s.WarmedH vm₁ → Pre ⟨T.setVm vm₁, locs, cells, slots⟩ argsL.toArray) :
    ∃ (v : Option Value) (vm₁ : Vm) (B : Pt), s.WarmedH vm₁ ∧ Stand p l e R s m args below meth c B.U B.locs B.cells B.slots ∧ Post ⟨T.setVm vm₁, locs, cells, slots⟩ argsL.toArray v B ∧
      ∀ target, Steps p.tables e below (B.U.setTop { g with pc := g.pc + 3, stack := v.toList ++ rest }) target → Steps p.tables e below (T.setTop g) target := by
  obtain ⟨mk, methM, cM, hnamed, hmethM, -, -, -, -, -, -, hsigM⟩ := Cond.codeWith_spec hcode
  have hstatic : methM.isStatic = true := Cond.static_spec hnamed hmethM hstat
  obtain ⟨kP, hkP, -⟩ := className_of_methodNamed hnamed
  have hinitP : kP.init = .initialized := Cond.initialized_spec (findClass_of_methodNamed hnamed) hkP hinit
  obtain ⟨vm₁, X₁, hstep₁⟩ := X.invokestatic hexec hown hlink hnamed hmethM hstatic hkP hinitP hy (g := g) hg (argsL := argsL) (rest := rest) (hlen _ hsigM) hstack hdg
  obtain ⟨v, B, X', hpost, hsteps⟩ := hK m meth c ⟨T.setVm vm₁, locs, cells, slots⟩ { g with stack := rest } (.invokestatic index) mk argsL.toArray X₁ hg hsize hdg hW (X₁.named hnamed) (hpre vm₁ X₁.warmed)
  exact ⟨v, vm₁, B, X₁.warmed, X', hpost, fun target h => hstep₁ _ fun acts => by rw [doInvoke_state]; exact hsteps.trans h⟩
theorem vx_runSW {y : MethodName} {bytes cc : ByteArray} {maxL nL mc ms n index : Nat} {ret : Option FieldType} {hh : List (Nat × Nat × Nat × Nat)} {ws : List Cond} {rm : Room} {Pc : Array Value → State → Prop} {Qc : Array Value → State → Outcome → State → Prop} {free : Addr → Prop} {Ts : List Cond} {own : String} {As rest : List Value} {g : JFrame}
    (S : CallFix p m c cc nL s args Ts own) (hM : Met l y ws rm Pc Qc mc ms free) (cw : vx_CSW R s args own index y bytes maxL ret hh ws rm mc ms n) (hp : PreS s H Pc As)
    (hg : g.method = m) (hn : As.length = n) (hsize : g.locals.size = nL) (hstack : g.stack = As.reverse ++ rest) (hW : 2 * g.monitorRoom + (rest.map fun v => v.category).sum ≤ 8) (hdg : decode cc g.pc = .ok (.invokestatic index, 3)) (hf : cells + mc ≤ R.cells ∧ slots + ms ≤ R.slots) :
    va_Run p l e R s m args below meth c H locs cells slots mc ms g rest (Qc As.toArray) (free) := by
  obtain ⟨⟨hrc, hrs, hfr, hlo, hws, hcw⟩, hcode, hini, hy, hlen, hl, hstt⟩ := cw
  have hK : Back l R p e below s args y 3 8 (PreOf R mc ms Pc) (PostOf Qc mc ms free) := va_backW (hh := hh) (bytes := bytes) (maxL := maxL) (ret := ret) hM hp.1 hrc hrs hfr hlo hws hcw (fun a' U hW => word_at hW (Or.inl (by first | rfl | simp [Cond.onTables, Cond.keeps, Cond.steady])) hini)
  obtain ⟨hx, hb, hml, ho, -⟩ := S
  intro T hT X
  obtain ⟨v, vm₁, ⟨U', l2, c2, s2⟩, hW₁, X', ⟨g', mk, t, L, e1, e2, hq, h1, hL, h2, h3⟩, st⟩ := vx_callSW X hx (hh := hh) (bytes := bytes) (maxL := maxL) (ret := ret) ho hl hstt hini hcode hy hK hg (hsize.trans hml.symm) (argsL := As) (rest := rest) (fun sig h => hn.trans (hlen sig h)) hstack hW (by rw [hb]; exact hdg)
    (fun vm₁ hW₁ => ⟨hf.1, hf.2, hp.2 (T.setVm vm₁) hT hW₁⟩)
  dsimp only [Pt.U, Pt.locs, Pt.cells, Pt.slots] at X' e1 e2 h1 h2 h3 st
  subst h1; subst h2; subst h3
  exact ⟨v, (T.setVm vm₁).calling g' mk As.toArray, t, U', L, hT, X', hL, e1, e2, hq, st⟩
/-- not caught here, past rows that name other classes: it goes on to the caller -/
theorem vx_outP {p : Program} {l : Launch} {e : Env} {R : Room} {s : State} {m : MethodId} {args : Array Value} {below : List Frame} {meth : Method} {c : Code} {H : Heap} {locs : List Loc} {cells slots : Nat} {free : Addr → Prop} {ls : Array Slot} {rest : List Value} {Qc : Array Value → State → Outcome → State → Prop} {XC : String → State → State → Prop}
    {pc : Nat} {own E : String} {ce : Cell} {q : Addr} {mc ms : Nat} (hown : s.vm.findClass own = some m.cls) (hlocks : meth.locks = false)
    (hpass : ∀ z ∈ c.exceptionTable.toList, covers z pc = false ∨ (z.catchType ≠ 0 ∧ ∃ nm : String, (Cond.classLink own z.catchType nm).before args s = true ∧ va_Nc E nm s)) (hcell : H[q]? = some ce) (hv : ce.vm = .none) (hcl : s.vm.findClass E = some ce.cls)
    (hx : ∀ t : State, t.heap = H → s.vm.Alike t.vm → XC E s t) (hf : ∀ z ∈ locs, free z.base) (hc : cells ≤ mc) (hs : slots ≤ ms) :
    vx_W p l e R s m args below meth c H locs cells slots (vx_MQ below Qc XC args s mc ms free) (F0 m pc ls rest) q := by
  intro T hT X
  have hpl : e.platform.magicAccessors = ({} : Platform).magicAccessors := by rw [X.admits.platform]
  obtain ⟨vm', hW', X', st⟩ := X.outThrough hlocks q (g := F0 m pc ls rest) rfl rfl rfl (cell := ce) (by rw [hT]; exact hcell) (by rw [hv]; rfl)
    (by obtain ⟨k9, h9, -⟩ := Vm.findClass_spec hcl; exact ⟨k9, h9⟩) (fun z hz => by
      rcases hpass z hz with h | ⟨hz0, nm, hl1, hn1⟩
      · exact Or.inl h
      · obtain ⟨c6, hc6, hcl6⟩ := Cond.classLink_spec hown hl1 e.platform hpl
        obtain ⟨a8, b8, h1, h2, h3⟩ := hn1
        cases Option.some.inj (h1.symm.trans hcl)
        cases Option.some.inj (h2.symm.trans hc6)
        exact Or.inr ⟨hz0, _, hcl6, h3⟩)
  obtain ⟨g₀, hfr⟩ := X'.frames_eq
  have hcell9 : ((T.setVm vm').setFrames (.throwing q :: below)).heap[q]? = some ce := by
    show T.heap[q]? = some ce
    rw [hT]; exact hcell
  have hend : Ended ((T.setVm vm').setFrames (.throwing q :: below)) below (.threw q) := State.frames_setFrames _ (State.cur_lt_of_frames hfr)
  refine ⟨(T.setVm vm').setFrames (.throwing q :: below), ?_, .threw q, X'.here.running, hend, Or.inr ⟨q, rfl, E, ce, locs, hx _ hT (X'.ends _).1.alike, hcell9, hv, hcl, (X'.ends _).1, (X'.ends _).2.mono hc hs, hf⟩⟩
  rw [X.pushThrowing_eq]
  exact st
/-- a thing of a world lies in the heap -/
theorem vx_lt {D : va_G} {cl : List vw_C} {ws : va_W} {H1 : Heap} (h : va_P D cl ws H1) {k : Nat} {q : Nat × va_E} (hk : ws[k]? = some q) : q.1 < H1.size := (h k q hk).lt
end VXS
/-! ===== END ===== -/
/-! ===== BEGIN methods with a table of their own: called by a name, returning or throwing ===== -/
section VXH
/-! vx_backW, vx_callVX, vx_callSX, vx_callVW, vx_runVW, vx_runVX, vx_runSX, vx_ofWH follow the same proofs as their sisters above (Free/Laws.lean, Shelf42/LK1.lean); vx_outP calls Shelf42/NT130.lean (outThrough). -/
section
variable {l : Launch} {R : Room} {p : Program} {e : Env} {below : List Frame} {s : State} {sargs : Array Value} {y : MethodName} {len W9 : Nat}
theorem vx_backW {ws : List Cond} {rm : Room} {Pc : Array Value → State → Prop} {Qc : Array Value → State → Outcome → State → Prop} {XC : String → State → State → Prop} {mc ms : Nat} {free : Addr → Prop} {bytes : ByteArray} {maxL : Nat} {ret : Option FieldType} {hh : List (Nat × Nat × Nat × Nat)}
    (hM : vx_Met l y ws rm Pc Qc XC mc ms free) (hblind : FrameBlind Pc) (hrc : rm.cells = mc) (hrs : rm.slots = ms)
    (hframes : rm.frames + 1 ≤ R.frames) (hlocals : W9 + (maxL + 11) + rm.locals ≤ R.locals)
    (hws : ∀ w ∈ ws, ∀ a' U, s.WarmedH U.vm → w.before a' U = true) (hcode : Cond.codeWith y bytes maxL ret hh ∈ ws) (hinit : ∀ a' U, s.WarmedH U.vm → (Cond.initialized y.cls).before a' U = true) :
    vx_Back l R p e below s sargs y len W9 (PreOf R mc ms Pc) (PostOf Qc mc ms free) (vx_Post XC mc ms free) := by
  intro m meth c A g ig mk a X hg hsize hdg hW hn hp
  have h1 : (headSpec ws rm).pre.before a A.U = true := atoms_intro fun w hw => hws w hw _ _ X.warmed
  have h2 : (Cond.codeWith y bytes maxL ret hh).before a A.U = true := hws _ hcode _ _ X.warmed
  have h3 : (Cond.initialized y.cls).before a A.U = true := hinit _ _ X.warmed
  have h4 : A.cells + (headSpec ws rm).room.cells ≤ R.cells := by rw [show (headSpec ws rm).room.cells = mc from hrc]; exact hp.1
  have h5 : A.slots + (headSpec ws rm).room.slots ≤ R.slots := by rw [show (headSpec ws rm).room.slots = ms from hrs]; exact hp.2.1
  have hPc : Pc a (A.U.calling g mk a) := hblind _ _ _ _ hp.2.2
  obtain ⟨U, Ls, c0, s0⟩ := A
  dsimp only [Pt.U, Pt.locs, Pt.cells, Pt.slots] at h1 h2 h3 h4 h5 X hn hPc ⊢
  obtain ⟨m9, methY, cY, hn9, hmY, hcY, -, hlY, -⟩ := Cond.codeWith_spec h2
  cases Option.some.inj (hn9.symm.trans hn)
  obtain ⟨kY, hkY, -⟩ := className_of_methodNamed hn
  have hinitY : kY.init = .initialized := Cond.initialized_spec (findClass_of_methodNamed hn) hkY h3
  have h : At U g.method c below := by rw [hg]; exact X.here
  have hlocals9 : W9 + (maxL + 11) + (headSpec ws rm).room.locals ≤ R.locals := hlocals
  have happ : (headSpec ws rm).appliesLoose y e.platform (U.calling g mk a) = true :=
    Spec.appliesLoose_calling (g := g) h hdg hn hkY hinitY
      (X.room_calling (g := g) (R' := (headSpec ws rm).room) hsize hmY hcY hframes (by rw [hlY]; omega) h4 h5) h1
  obtain ⟨mid, hmid⟩ := h.above
  have hfr : (U.setTop g).frames = (.java g :: mid) ++ below := by rw [State.frames_setTop' g h.top, hmid]; rfl
  obtain ⟨o, s₂, hsteps, -, hend, hq⟩ := Steps.callFree hM p X.admits X.cas X.clock (acts := []) hfr happ hPc trivial
  have hq' : vx_Q Qc XC mc ms free a (U.calling g mk a) o s₂ := hq
  rw [State.frames_setTop' g h.top] at hend
  obtain ⟨g₀, hg0⟩ := Option.isSome_iff_exists.mp h.top
  obtain ⟨r, hr⟩ := State.topJava?_eq_some.mp hg0
  have hr' : (({ U with heap := s₂.heap, slotsUsed := s₂.slotsUsed } : State).setVm s₂.vm).frames = .java g₀ :: r := hr
  rcases hq' with ⟨hqc, L, hfe, hL⟩ | ⟨q, rfl, E, ce, L, hx, hce, hcv, hcl, hW₂, hsm, hL⟩
  · obtain ⟨⟨v, rfl⟩, hW₂, e2, q2, q3, q4, q5, q6⟩ := id hfe
    have e3 : s₂ = ({ (U.calling g mk a).setFrames s₂.frames with heap := s₂.heap, slotsUsed := s₂.slotsUsed } : State).setVm s₂.vm := by
      have : s₂ = ({ s₂ with vm := (U.calling g mk a).vm } : State).setVm s₂.vm := rfl
      rw [e2] at this
      exact this
    obtain ⟨c₂, i₂, len₂, hc₂, hd₂, hf₂⟩ := hend
    have hW' : U.WarmedH s₂.vm := hW₂
    have hcc : c₂ = c := by
      have h1 : s₂.code? g.method = U.code? g.method := by
        rw [State.code?_eq, State.code?_eq, hW'.alike.method?]
      exact Option.some.inj (hc₂.symm.trans (h1.trans h.code))
    subst hcc
    have hlen : len₂ = len := by rw [hdg] at hd₂; cases hd₂; rfl
    subst hlen
    have hs₂ : s₂ = (({ U with heap := s₂.heap, slotsUsed := s₂.slotsUsed } : State).setVm s₂.vm).setTop { g with pc := g.pc + len₂, stack := v.toList ++ g.stack } := by
      refine e3.trans ?_
      rw [hf₂, State.calling_eq h.top, State.setFrames_setFrames, State.setTop_of_frames _ hr', hr]
      rfl
    have hsame : U.sameButNew ({ U with heap := s₂.heap, slotsUsed := s₂.slotsUsed } : State) L mc ms := by
      refine ⟨?_, q2, q3, q4, q5, q6⟩
      obtain ⟨t, ht, -⟩ := State.frames_cons hr
      show ({ U with heap := s₂.heap, slotsUsed := s₂.slotsUsed } : State) = { U.setFrames U.frames with heap := s₂.heap, slotsUsed := s₂.slotsUsed }
      rw [State.setFrames_self ht]
    subst hg
    refine Or.inl ⟨v, ⟨(({ U with heap := s₂.heap, slotsUsed := s₂.slotsUsed } : State).setVm s₂.vm), Ls ++ L, c0 + mc, s0 + ms⟩,
      ⟨X.admits, X.cas, X.clock, X.frames, X.room, X.hears, X.method, X.code, (X.here.setHeapUsed s₂.heap s₂.slotsUsed).setVm hW'.alike, X.tail, State.WarmedH.trans X.warmed hW', X.limits, X.bytes, X.same.trans (hsame.setVm s.vm)⟩,
      ⟨g, mk, s₂, L, rfl, rfl, hqc, rfl, hL, rfl, rfl⟩, ?_⟩
    show Steps p.tables e below _ ((({ U with heap := s₂.heap, slotsUsed := s₂.slotsUsed } : State).setVm s₂.vm).setTop { g with pc := g.pc + len₂, stack := v.toList ++ g.stack })
    rw [← hs₂]
    exact hsteps
  · obtain ⟨e2, q2, q3, q4, q5, q6⟩ := id hsm
    have e3 : s₂ = ({ (U.calling g mk a).setFrames s₂.frames with heap := s₂.heap, slotsUsed := s₂.slotsUsed } : State).setVm s₂.vm := by
      have : s₂ = ({ s₂ with vm := (U.calling g mk a).vm } : State).setVm s₂.vm := rfl
      rw [e2] at this
      exact this
    have hf₂ : s₂.frames = .throwing q :: .java g :: U.frames.tail := hend
    have hW' : U.WarmedH s₂.vm := hW₂
    have hs₂ : s₂ = ((({ U with heap := s₂.heap, slotsUsed := s₂.slotsUsed } : State).setVm s₂.vm).setTop g).pushFrame (.throwing q) := by
      refine e3.trans ?_
      rw [hf₂, State.calling_eq h.top, State.setFrames_setFrames, State.pushFrame, State.frames_setTop _ hr', State.setTop_of_frames _ hr', State.setFrames_setFrames, hr]
      rfl
    have hsame : U.sameButNew ({ U with heap := s₂.heap, slotsUsed := s₂.slotsUsed } : State) L mc ms := by
      refine ⟨?_, q2, q3, q4, q5, q6⟩
      obtain ⟨t, ht, -⟩ := State.frames_cons hr
      show ({ U with heap := s₂.heap, slotsUsed := s₂.slotsUsed } : State) = { U.setFrames U.frames with heap := s₂.heap, slotsUsed := s₂.slotsUsed }
      rw [State.setFrames_self ht]
    subst hg
    refine Or.inr ⟨q, ⟨(({ U with heap := s₂.heap, slotsUsed := s₂.slotsUsed } : State).setVm s₂.vm), Ls ++ L, c0 + mc, s0 + ms⟩,
      ⟨X.admits, X.cas, X.clock, X.frames, X.room, X.hears, X.method, X.code, (X.here.setHeapUsed s₂.heap s₂.slotsUsed).setVm hW'.alike, X.tail, State.WarmedH.trans X.warmed hW', X.limits, X.bytes, X.same.trans (hsame.setVm s.vm)⟩,
      ⟨g, mk, s₂, L, E, ce, rfl, rfl, hx, hce, hcv, hcl, rfl, hL, rfl, rfl⟩, ?_⟩
    show Steps p.tables e below _ (((({ U with heap := s₂.heap, slotsUsed := s₂.slotsUsed } : State).setVm s₂.vm).setTop g).pushFrame (.throwing q))
    rw [← hs₂]
    exact hsteps
end
variable {p : Program} {l : Launch} {e : Env} {R : Room} {s : State} {m : MethodId} {args : Array Value} {below : List Frame} {meth : Method} {c : Code} {T : State} {H : Heap} {locs : List Loc} {cells slots : Nat}
theorem vx_callVX (X : Stand p l e R s m args below meth c T locs cells slots) (hexec : p.tables.exec = Jvm.exec) {own C : String} {index : Nat} {y : MethodName} {bytes : ByteArray} {maxL : Nat} {ret : Option FieldType} {hh : List (Nat × Nat × Nat × Nat)}
    (hown : s.vm.findClass own = some m.cls) (hlink : (Cond.methodLink own index y).before args s = true) (hinst : (Cond.instanceMethod y).before args s = true) (hsel : (Cond.selects C y y).before args s = true)
    (hcode : (Cond.codeWith y bytes maxL ret hh).before args s = true) (hy : y.cls ≠ "java/lang/invoke/MethodHandle" ∧ y.cls ≠ "java/lang/invoke/VarHandle")
    {W9 : Nat} {Pre : Pt → Array Value → Prop} {Post : Pt → Array Value → Option Value → Pt → Prop} {PostX : Pt → Array Value → Addr → Pt → Prop} (hK : vx_Back l R p e below s args y 3 W9 Pre Post PostX)
    {b : Addr} {cellB : Cell} (hcell : T.heap[b]? = some cellB) (hobj : cellB.vm.isStatics = false) (hcls : s.vm.findClass C = some cellB.cls)
    {g : JFrame} (hg : g.method = m) (hsize : g.locals.size = c.maxLocals) {argsL rest : List Value} (hlen : ∀ sig, parseMethodDescriptor y.desc = some sig → argsL.length = sig.parameters.length)
    (hstack : g.stack = argsL.reverse ++ .ref b :: rest) (hW : 2 * g.monitorRoom + (rest.map fun v => v.category).sum ≤ W9) (hdg : decode c.code g.pc = .ok (.invokevirtual index, 3))
    (hpre : ∀ vm₁, s.WarmedH vm₁ → Pre ⟨T.setVm vm₁, locs, cells, slots⟩ (Value.ref b :: argsL).toArray) :
    (∃ (v : Option Value) (vm₁ : Vm) (B : Pt), s.WarmedH vm₁ ∧ Stand p l e R s m args below meth c B.U B.locs B.cells B.slots ∧ Post ⟨T.setVm vm₁, locs, cells, slots⟩ (Value.ref b :: argsL).toArray v B ∧
      ∀ target, Steps p.tables e below (B.U.setTop { g with pc := g.pc + 3, stack := v.toList ++ rest }) target → Steps p.tables e below (T.setTop g) target) ∨
    (∃ (q : Addr) (vm₁ : Vm) (B : Pt), s.WarmedH vm₁ ∧ Stand p l e R s m args below meth c B.U B.locs B.cells B.slots ∧ PostX ⟨T.setVm vm₁, locs, cells, slots⟩ (Value.ref b :: argsL).toArray q B ∧
      Steps p.tables e below (T.setTop g) ((B.U.setTop { g with stack := rest }).pushFrame (.throwing q))) := by
  obtain ⟨mk, methM, hnamed, hmethM, hstM, habM⟩ := Cond.instanceMethod_spec hinst
  obtain ⟨m8, methM', cM, hn8, hmethM', -, -, -, -, -, -, hsigM⟩ := Cond.codeWith_spec hcode
  cases Option.some.inj (hn8.symm.trans hnamed)
  cases hmethM.symm.trans hmethM'
  obtain ⟨c2, r2, m2, q1, q2, q3, q4, kP, hkP, hkPi⟩ := Cond.selects_spec hsel
  cases hcls.symm.trans q1
  cases (State.methodFound?_of_named hnamed hy).symm.trans q2
  cases hnamed.symm.trans q3
  have hselP : selectMethod e.platform s.vm cellB.cls mk = .method mk := by rw [Launch.admits_selectMethod X.admits]; exact q4
  obtain ⟨vm₁, X₁, hstep₁⟩ := X.invokevirtual hexec hown hlink hnamed hmethM hstM hkP hkPi hy (a := b) (cell := cellB) hcell
    (fun z h => by rw [h] at hobj; cases hobj) hselP hmethM habM hkP hkPi (g := g) hg (argsL := argsL) (rest := rest) (hlen _ hsigM) hstack hdg
  rcases hK m meth c ⟨T.setVm vm₁, locs, cells, slots⟩ { g with stack := rest } (.invokevirtual index) mk (Value.ref b :: argsL).toArray X₁ hg hsize hdg hW (X₁.named hnamed) (hpre vm₁ X₁.warmed) with ⟨v, B, X', hpost, hsteps⟩ | ⟨q, B, X', hpost, hsteps⟩
  · exact Or.inl ⟨v, vm₁, B, X₁.warmed, X', hpost, fun target h => hstep₁ _ fun acts => by rw [doInvoke_state]; exact hsteps.trans h⟩
  · exact Or.inr ⟨q, vm₁, B, X₁.warmed, X', hpost, hstep₁ _ fun acts => by rw [doInvoke_state]; exact hsteps⟩
theorem vx_callSX (X : Stand p l e R s m args below meth c T locs cells slots) (hexec : p.tables.exec = Jvm.exec) {own : String} {index : Nat} {y : MethodName} {bytes : ByteArray} {maxL : Nat} {ret : Option FieldType} {hh : List (Nat × Nat × Nat × Nat)}
    (hown : s.vm.findClass own = some m.cls) (hlink : (Cond.methodLink own index y).before args s = true) (hstat : (Cond.static y).before args s = true) (hinit : (Cond.initialized y.cls).before args s = true)
    (hcode : (Cond.codeWith y bytes maxL ret hh).before args s = true) (hy : y.cls ≠ "java/lang/invoke/MethodHandle" ∧ y.cls ≠ "java/lang/invoke/VarHandle")
    {W9 : Nat} {Pre : Pt → Array Value → Prop} {Post : Pt → Array Value → Option Value → Pt → Prop} {PostX : Pt → Array Value → Addr → Pt → Prop} (hK : vx_Back l R p e below s args y 3 W9 Pre Post PostX)
    {g : JFrame} (hg : g.method = m) (hsize : g.locals.size = c.maxLocals) {argsL rest : List Value} (hlen : ∀ sig, parseMethodDescriptor y.desc = some sig → argsL.length = sig.parameters.length)
    (hstack : g.stack = argsL.reverse ++ rest) (hW : 2 * g.monitorRoom + (rest.map fun v => v.category).sum ≤ W9) (hdg : decode c.code g.pc = .ok (.invokestatic index, 3))
    (hpre : ∀ vm₁, s.WarmedH vm₁ → Pre ⟨T.setVm vm₁, locs, cells, slots⟩ argsL.toArray) :
    (∃ (v : Option Value) (vm₁ : Vm) (B : Pt), s.WarmedH vm₁ ∧ Stand p l e R s m args below meth c B.U B.locs B.cells B.slots ∧ Post ⟨T.setVm vm₁, locs, cells, slots⟩ argsL.toArray v B ∧
      ∀ target, Steps p.tables e below (B.U.setTop { g with pc := g.pc + 3, stack := v.toList ++ rest }) target → Steps p.tables e below (T.setTop g) target) ∨
    (∃ (q : Addr) (vm₁ : Vm) (B : Pt), s.WarmedH vm₁ ∧ Stand p l e R s m args below meth c B.U B.locs B.cells B.slots ∧ PostX ⟨T.setVm vm₁, locs, cells, slots⟩ argsL.toArray q B ∧
      Steps p.tables e below (T.setTop g) ((B.U.setTop { g with stack := rest }).pushFrame (.throwing q))) := by
  obtain ⟨mk, methM, cM, hnamed, hmethM, -, -, -, -, -, -, hsigM⟩ := Cond.codeWith_spec hcode
  have hstatic : methM.isStatic = true := Cond.static_spec hnamed hmethM hstat
  obtain ⟨kP, hkP, -⟩ := className_of_methodNamed hnamed
  have hinitP : kP.init = .initialized := Cond.initialized_spec (findClass_of_methodNamed hnamed) hkP hinit
  obtain ⟨vm₁, X₁, hstep₁⟩ := X.invokestatic hexec hown hlink hnamed hmethM hstatic hkP hinitP hy (g := g) hg (argsL := argsL) (rest := rest) (hlen _ hsigM) hstack hdg
  rcases hK m meth c ⟨T.setVm vm₁, locs, cells, slots⟩ { g with stack := rest } (.invokestatic index) mk argsL.toArray X₁ hg hsize hdg hW (X₁.named hnamed) (hpre vm₁ X₁.warmed) with ⟨v, B, X', hpost, hsteps⟩ | ⟨q, B, X', hpost, hsteps⟩
  · exact Or.inl ⟨v, vm₁, B, X₁.warmed, X', hpost, fun target h => hstep₁ _ fun acts => by rw [doInvoke_state]; exact hsteps.trans h⟩
  · exact Or.inr ⟨q, vm₁, B, X₁.warmed, X', hpost, hstep₁ _ fun acts => by rw [doInvoke_state]; exact hsteps⟩
theorem vx_callVW (X : Stand p l e R s m args below meth c T locs cells slots) (hexec : p.tables.exec = Jvm.exec) {own C : String} {index : Nat} {y : MethodName} {bytes : ByteArray} {maxL : Nat} {ret : Option FieldType} {hh : List (Nat × Nat × Nat × Nat)}
    (hown : s.vm.findClass own = some m.cls) (hlink : (Cond.methodLink own index y).before args s = true) (hinst : (Cond.instanceMethod y).before args s = true) (hsel : (Cond.selects C y y).before args s = true)
    (hcode : (Cond.codeWith y bytes maxL ret hh).before args s = true) (hy : y.cls ≠ "java/lang/invoke/MethodHandle" ∧ y.cls ≠ "java/lang/invoke/VarHandle")
    {W9 : Nat} {Pre : Pt → Array Value → Prop} {Post : Pt → Array Value → Option Value → Pt → Prop} (hK : Back l R p e below s args y 3 W9 Pre Post)
    {b : Addr} {cellB : Cell} (hcell : T.heap[b]? = some cellB) (hobj : cellB.vm.isStatics = false) (hcls : s.vm.findClass C = some cellB.cls)
    {g : JFrame} (hg : g.method = m) (hsize : g.locals.size = c.maxLocals) {argsL rest : List Value} (hlen : ∀ sig, parseMethodDescriptor y.desc = some sig → argsL.length = sig.parameters.length)
    (hstack : g.stack = argsL.reverse ++ .ref b :: rest) (hW : 2 * g.monitorRoom + (rest.map fun v => v.category).sum ≤ W9) (hdg : decode c.code g.pc = .ok (.invokevirtual index, 3))
    (hpre : ∀ vm₁, s.WarmedH vm₁ → Pre ⟨T.setVm vm₁, locs, cells, slots⟩ (Value.ref b :: argsL).toArray) :
    ∃ (v : Option Value) (vm₁ : Vm) (B : Pt), s.WarmedH vm₁ ∧ Stand p l e R s m args below meth c B.U B.locs B.cells B.slots ∧ Post ⟨T.setVm vm₁, locs, cells, slots⟩ (Value.ref b :: argsL).toArray v B ∧
      ∀ target, Steps p.tables e below (B.U.setTop { g with pc := g.pc + 3, stack := v.toList ++ rest }) target → Steps p.tables e below (T.setTop g) target := by
  obtain ⟨mk, methM, hnamed, hmethM, hstM, habM⟩ := Cond.instanceMethod_spec hinst
  obtain ⟨m8, methM', cM, hn8, hmethM', -, -, -, -, -, -, hsigM⟩ := Cond.codeWith_spec hcode
  cases Option.some.inj (hn8.symm.trans hnamed)
  cases hmethM.symm.trans hmethM'
  obtain ⟨c2, r2, m2, q1, q2, q3, q4, kP, hkP, hkPi⟩ := Cond.selects_spec hsel
  cases hcls.symm.trans q1
  cases (State.methodFound?_of_named hnamed hy).symm.trans q2
  cases hnamed.symm.trans q3
  have hselP : selectMethod e.platform s.vm cellB.cls mk = .method mk := by rw [Launch.admits_selectMethod X.admits]; exact q4
  obtain ⟨vm₁, X₁, hstep₁⟩ := X.invokevirtual hexec hown hlink hnamed hmethM hstM hkP hkPi hy (a := b) (cell := cellB) hcell
    (fun z h => by rw [h] at hobj; cases hobj) hselP hmethM habM hkP hkPi (g := g) hg (argsL := argsL) (rest := rest) (hlen _ hsigM) hstack hdg
  obtain ⟨v, B, X', hpost, hsteps⟩ := hK m meth c ⟨T.setVm vm₁, locs, cells, slots⟩ { g with stack := rest } (.invokevirtual index) mk (Value.ref b :: argsL).toArray X₁ hg hsize hdg hW (X₁.named hnamed) (hpre vm₁ X₁.warmed)
  exact ⟨v, vm₁, B, X₁.warmed, X', hpost, fun target h => hstep₁ _ fun acts => by rw [doInvoke_state]; exact hsteps.trans h⟩
abbrev vx_CVW (R : Room) (s : State) (args : Array Value) (own C : String) (index : Nat) (y : MethodName) (bytes : ByteArray) (maxL : Nat) (ret : Option FieldType) (hh : List (Nat × Nat × Nat × Nat)) (ws : List Cond) (rm : Room) (mc ms n : Nat) : Prop :=
  (rm.cells = mc ∧ rm.slots = ms ∧ rm.frames + 1 ≤ R.frames ∧ 8 + (maxL + 11) + rm.locals ≤ R.locals ∧ (∀ w ∈ ws, ∀ (a' : Array Value) (U : State), s.WarmedH U.vm → w.before a' U = true) ∧ Cond.codeWith y bytes maxL ret hh ∈ ws) ∧
  (Cond.codeWith y bytes maxL ret hh).before args s = true ∧ (Cond.initialized y.cls).before args s = true ∧ (y.cls ≠ "java/lang/invoke/MethodHandle" ∧ y.cls ≠ "java/lang/invoke/VarHandle") ∧
  (∀ sig, parseMethodDescriptor y.desc = some sig → n = sig.parameters.length) ∧ (Cond.methodLink own index y).before args s = true ∧ (Cond.instanceMethod y).before args s = true ∧ (Cond.selects C y y).before args s = true
theorem vx_cwVW {own C : String} {index maxL mc ms : Nat} {y : MethodName} {bytes : ByteArray} {ret : Option FieldType} {hh : List (Nat × Nat × Nat × Nat)} {Ts ws ws' : List Cond} {rm : Room} (n : Nat) (ht : ∀ w ∈ Ts, w.before args s = true) (hT : GoodIn Ts (wsV own index C y ws)) (hw : ws = Cond.codeWith y bytes maxL ret hh :: ws') (hrc : rm.cells = mc) (hrs : rm.slots = ms)
    (hd : y.cls = C ∧ y.cls ≠ "java/lang/invoke/MethodHandle" ∧ y.cls ≠ "java/lang/invoke/VarHandle" ∧ (parseMethodDescriptor y.desc).map (fun d => d.parameters.length) = some n) (hR : rm.frames + 1 ≤ R.frames ∧ 8 + (maxL + 11) + rm.locals ≤ R.locals) :
    vx_CVW R s args own C index y bytes maxL ret hh ws rm mc ms n := by
  obtain ⟨hC, hd⟩ := hd
  subst hC
  have ok : ∀ w ∈ wsV own index y.cls y ws, w.before args s = true := fun w h => ht w (hT w h).1
  have hG : GoodIn Ts ws := fun w h => hT w (by unfold wsV; exact List.mem_append_right _ h)
  have hc : Cond.codeWith y bytes maxL ret hh ∈ ws := by rw [hw]; exact List.mem_cons_self
  refine ⟨⟨hrc, hrs, hR.1, hR.2, pay_in ht hG, hc⟩, ht _ (hG _ hc).1, ok _ (by simp [wsV]), ⟨hd.1, hd.2.1⟩, fun sig h => ?_, ok _ (by simp [wsV]), ok _ (by simp [wsV]), ok _ (by simp [wsV])⟩
  have h2 := hd.2.2
  rw [h] at h2
  exact (Option.some.inj h2).symm
theorem vx_runVW {y : MethodName} {bytes cc : ByteArray} {maxL nL mc ms n index : Nat} {ret : Option FieldType} {hh : List (Nat × Nat × Nat × Nat)} {ws : List Cond} {rm : Room} {Pc : Array Value → State → Prop} {Qc : Array Value → State → Outcome → State → Prop} {free : Addr → Prop} {Ts : List Cond} {own C : String} {b : Addr} {As rest : List Value} {g : JFrame}
    (S : CallFix p m c cc nL s args Ts own) (hM : Met l y ws rm Pc Qc mc ms free) (cw : vx_CVW R s args own C index y bytes maxL ret hh ws rm mc ms n) (hp : PreV s H C b Pc As)
    (hg : g.method = m) (hn : As.length = n) (hsize : g.locals.size = nL) (hstack : g.stack = As.reverse ++ .ref b :: rest) (hW : 2 * g.monitorRoom + (rest.map fun v => v.category).sum ≤ 8) (hdg : decode cc g.pc = .ok (.invokevirtual index, 3)) (hf : cells + mc ≤ R.cells ∧ slots + ms ≤ R.slots) :
    va_Run p l e R s m args below meth c H locs cells slots mc ms g rest (Qc (Value.ref b :: As).toArray) free := by
  obtain ⟨⟨hrc, hrs, hfr, hlo, hws, hcw⟩, hcode, hini, hy, hlen, hl, hin, hse⟩ := cw
  have hK : Back l R p e below s args y 3 8 (PreOf R mc ms Pc) (PostOf Qc mc ms free) := va_backW (hh := hh) (bytes := bytes) (maxL := maxL) (ret := ret) hM hp.1 hrc hrs hfr hlo hws hcw (fun a' U hW => word_at hW (Or.inl (by first | rfl | simp [Cond.onTables, Cond.keeps, Cond.steady])) hini)
  obtain ⟨hx, hb, hml, ho, -⟩ := S
  obtain ⟨-, ⟨cellB, hcB, hoB, hclB⟩, hPc⟩ := hp
  intro T hT X
  obtain ⟨v, vm₁, ⟨U', l2, c2, s2⟩, hW₁, X', ⟨g', mk, t, L, e1, e2, hq, h1, hL, h2, h3⟩, st⟩ := vx_callVW X hx (C := C) (hh := hh) (bytes := bytes) (maxL := maxL) (ret := ret) ho hl hin hse hcode hy hK (by rw [hT]; exact hcB) hoB hclB hg (hsize.trans hml.symm) (argsL := As) (rest := rest) (fun sig h => hn.trans (hlen sig h)) hstack hW (by rw [hb]; exact hdg)
    (fun vm₁ hW₁ => ⟨hf.1, hf.2, hPc (T.setVm vm₁) hT hW₁⟩)
  dsimp only [Pt.U, Pt.locs, Pt.cells, Pt.slots] at X' e1 e2 h1 h2 h3 st
  subst h1; subst h2; subst h3
  exact ⟨v, (T.setVm vm₁).calling g' mk (Value.ref b :: As).toArray, t, U', L, hT, X', hL, e1, e2, hq, st⟩
section
variable {y : MethodName} {bytes cc : ByteArray} {maxL nL mc ms n index : Nat} {ret : Option FieldType} {ws : List Cond} {rm : Room} {Pc : Array Value → State → Prop} {Qc : Array Value → State → Outcome → State → Prop} {XC : String → State → State → Prop} {free : Addr → Prop} {Ts : List Cond} {own C : String} {b : Addr} {As rest : List Value} {g : JFrame}
theorem vx_runVX {hh : List (Nat × Nat × Nat × Nat)} (S : CallFix p m c cc nL s args Ts own) (hM : vx_Met l y ws rm Pc Qc XC mc ms free) (cw : vx_CVW R s args own C index y bytes maxL ret hh ws rm mc ms n) (hp : PreV s H C b Pc As)
    (hg : g.method = m) (hn : As.length = n) (hsize : g.locals.size = nL) (hstack : g.stack = As.reverse ++ .ref b :: rest) (hW : 2 * g.monitorRoom + (rest.map fun v => v.category).sum ≤ 8) (hdg : decode cc g.pc = .ok (.invokevirtual index, 3)) (hf : cells + mc ≤ R.cells ∧ slots + ms ≤ R.slots) :
    vx_Run p l e R s m args below meth c H locs cells slots mc ms g rest (Qc (Value.ref b :: As).toArray) XC free := by
  obtain ⟨⟨hrc, hrs, hfr, hlo, hws, hcw⟩, hcode, hini, hy, hlen, hl, hin, hse⟩ := cw
  have hK : vx_Back l R p e below s args y 3 8 (PreOf R mc ms Pc) (PostOf Qc mc ms free) (vx_Post XC mc ms free) := vx_backW (hh := hh) (bytes := bytes) (maxL := maxL) (ret := ret) hM hp.1 hrc hrs hfr hlo hws hcw (fun a' U hW => word_at hW (Or.inl (by first | rfl | simp [Cond.onTables, Cond.keeps, Cond.steady])) hini)
  obtain ⟨hx, hb, hml, ho, -⟩ := S
  obtain ⟨-, ⟨cellB, hcB, hoB, hclB⟩, hPc⟩ := hp
  intro T hT X
  rcases vx_callVX X hx (C := C) (hh := hh) (bytes := bytes) (maxL := maxL) (ret := ret) ho hl hin hse hcode hy hK (by rw [hT]; exact hcB) hoB hclB hg (hsize.trans hml.symm) (argsL := As) (rest := rest) (fun sig h => hn.trans (hlen sig h)) hstack hW (by rw [hb]; exact hdg)
    (fun vm₁ hW₁ => ⟨hf.1, hf.2, hPc (T.setVm vm₁) hT hW₁⟩) with ⟨v, vm₁, ⟨U', l2, c2, s2⟩, hW₁, X', ⟨g', mk, t, L, e1, e2, hq, h1, hL, h2, h3⟩, st⟩ | ⟨q, vm₁, ⟨U', l2, c2, s2⟩, hW₁, X', ⟨g', mk, t, L, E, ce, e1, e2, hq, hce, hcv, hcl, h1, hL, h2, h3⟩, st⟩
  · dsimp only [Pt.U, Pt.locs, Pt.cells, Pt.slots] at X' e1 e2 h1 h2 h3 st
    subst h1; subst h2; subst h3
    exact Or.inl ⟨v, (T.setVm vm₁).calling g' mk (Value.ref b :: As).toArray, t, U', L, hT, X', hL, e1, e2, hq, st⟩
  · dsimp only [Pt.U, Pt.locs, Pt.cells, Pt.slots] at X' e1 e2 h1 h2 h3 st hcl
    subst h1; subst h2; subst h3
    exact Or.inr ⟨q, (T.setVm vm₁).calling g' mk (Value.ref b :: As).toArray, t, U', L, E, ce, hT, X', hL, e1, e2, hq, hce, hcv, vx_cls hW₁ hcl, st⟩
theorem vx_runSX {hh : List (Nat × Nat × Nat × Nat)} (S : CallFix p m c cc nL s args Ts own) (hM : vx_Met l y ws rm Pc Qc XC mc ms free) (cw : vx_CSW R s args own index y bytes maxL ret hh ws rm mc ms n) (hp : PreS s H Pc As)
    (hg : g.method = m) (hn : As.length = n) (hsize : g.locals.size = nL) (hstack : g.stack = As.reverse ++ rest) (hW : 2 * g.monitorRoom + (rest.map fun v => v.category).sum ≤ 8) (hdg : decode cc g.pc = .ok (.invokestatic index, 3)) (hf : cells + mc ≤ R.cells ∧ slots + ms ≤ R.slots) :
    vx_Run p l e R s m args below meth c H locs cells slots mc ms g rest (Qc As.toArray) XC free := by
  obtain ⟨⟨hrc, hrs, hfr, hlo, hws, hcw⟩, hcode, hini, hy, hlen, hl, hstt⟩ := cw
  have hK : vx_Back l R p e below s args y 3 8 (PreOf R mc ms Pc) (PostOf Qc mc ms free) (vx_Post XC mc ms free) := vx_backW (hh := hh) (bytes := bytes) (maxL := maxL) (ret := ret) hM hp.1 hrc hrs hfr hlo hws hcw (fun a' U hW => word_at hW (Or.inl (by first | rfl | simp [Cond.onTables, Cond.keeps, Cond.steady])) hini)
  obtain ⟨hx, hb, hml, ho, -⟩ := S
  intro T hT X
  rcases vx_callSX X hx (hh := hh) (bytes := bytes) (maxL := maxL) (ret := ret) ho hl hstt hini hcode hy hK hg (hsize.trans hml.symm) (argsL := As) (rest := rest) (fun sig h => hn.trans (hlen sig h)) hstack hW (by rw [hb]; exact hdg)
    (fun vm₁ hW₁ => ⟨hf.1, hf.2, hp.2 (T.setVm vm₁) hT hW₁⟩) with ⟨v, vm₁, ⟨U', l2, c2, s2⟩, hW₁, X', ⟨g', mk, t, L, e1, e2, hq, h1, hL, h2, h3⟩, st⟩ | ⟨q, vm₁, ⟨U', l2, c2, s2⟩, hW₁, X', ⟨g', mk, t, L, E, ce, e1, e2, hq, hce, hcv, hcl, h1, hL, h2, h3⟩, st⟩
  · dsimp only [Pt.U, Pt.locs, Pt.cells, Pt.slots] at X' e1 e2 h1 h2 h3 st
    subst h1; subst h2; subst h3
    exact Or.inl ⟨v, (T.setVm vm₁).calling g' mk As.toArray, t, U', L, hT, X', hL, e1, e2, hq, st⟩
  · dsimp only [Pt.U, Pt.locs, Pt.cells, Pt.slots] at X' e1 e2 h1 h2 h3 st hcl
    subst h1; subst h2; subst h3
    exact Or.inr ⟨q, (T.setVm vm₁).calling g' mk As.toArray, t, U', L, E, ce, hT, X', hL, e1, e2, hq, hce, hcv, vx_cls hW₁ hcl, st⟩
end
end VXH
theorem vx_ofWH {l : Launch} {y : MethodName} {ws ws' : List Cond} {rm : Room} {Pc : Array Value → State → Prop} {Qc : Array Value → State → Outcome → State → Prop} {XC : String → State → State → Prop} {mc ms : Nat} {free : Addr → Prop} {cc : ByteArray} {maxL : Nat} {ret : Option FieldType} {hh : List (Nat × Nat × Nat × Nat)}
    (hy : plainName y.cls = true) (hw : ws = Cond.codeWith y cc maxL ret hh :: ws')
    (body : ∀ p e s m args below meth c s₁, BodyLoose p l y (headSpec ws rm) cc maxL ret e s m args below meth c s₁ → c.maxLocals = maxL → Pc args s →
      W p l e (headSpec ws rm).room s m args below meth c s.heap [] 0 0 (vx_MQ below Qc XC args s mc ms free) (entryFrame m args maxL)) : vx_Met l y ws rm Pc Qc XC mc ms free := by
  refine MetFree.of_bodyS (code := cc) (maxLocals := maxL) (ret := ret) hy ?_ ?_
  · intro args s m h hn
    obtain ⟨m9, meth, c, hn9, h1, h2, h3, h4, -, h5, h6, -⟩ := Cond.codeWith_spec (atoms_spec (ws := ws) h _ (by rw [hw]; exact List.mem_cons_self))
    cases hn.symm.trans hn9
    exact ⟨meth, c, h1, h2, h3, h4, h5, h6⟩
  · intro p e s m args below meth c s₁ B hml hP _
    have hh0 : s₁.heap = s.heap := by rw [B.state]; rfl
    obtain ⟨t, a1, o, b1, b2, b3⟩ := body p e s m args below meth c s₁ B hml hP s₁ hh0 (Stand.of_body B)
    exact ⟨t, o, a1, b1, b2, b3⟩
/-! ===== END ===== -/
end
section
/-! ===== BEGIN printed: names, fields, word lists, decode rows ===== -/
def RX0 : String := "ChargePark"
def TX0 : u_T := fun k => match k with
  | 0 => ("ChargePark", "phaseOf", "[I", true)
  | 1 => ("ChargePark", "greatestOf", "[I", true)
  | 2 => ("ChargePark", "needOf", "[I", true)
  | 3 => ("ChargePark", "appetiteOf", "[I", true)
  | 4 => ("ChargePark", "leavesAt", "[I", true)
  | 5 => ("ChargePark", "fuseOf", "[I", true)
  | 6 => ("ChargePark", "pointCount", "I", false)
  | 7 => ("ChargePark", "greatestDifference", "I", false)
  | 8 => ("ChargePark", "ruleInUse", "I", false)
  | 9 => ("ChargePark", "now", "I", false)
  | 10 => ("ChargePark", "takenUnits", "I", false)
  | 11 => ("ChargePark", "servedCars", "I", false)
  | 12 => ("ChargePark", "wanted", "[I", true)
  | 13 => ("ChargePark", "given", "[I", true)
  | 14 => ("ChargePark", "loadOf", "[I", true)
  | _ => ("ChargePark", "turns", "[I", true)
def tyX0 : Nat → FieldType := fun k => match k with
  | 0 => .array .int
  | 1 => .array .int
  | 2 => .array .int
  | 3 => .array .int
  | 4 => .array .int
  | 5 => .array .int
  | 6 => .int
  | 7 => .int
  | 8 => .int
  | 9 => .int
  | 10 => .int
  | 11 => .int
  | 12 => .array .int
  | 13 => .array .int
  | 14 => .array .int
  | _ => .array .int
abbrev wsX00 : List Cond := u_ws RX0 TX0 16
theorem nmX0 : ∀ a, a < 16 → ∀ b, b < 16 → a ≠ b → (TX0 a).2.1 ≠ (TX0 b).2.1 := by decide +kernel
theorem tyX0_ok : ∀ k, k < 16 → parseFieldDescriptor (TX0 k).2.2.1 = some (tyX0 k) := by decide +kernel
abbrev cX0_init : ByteArray := prog_1_method_1_code
def yX0_init : MethodName := ⟨RX0, "<init>", "()V"⟩
abbrev cX0_point : ByteArray := prog_1_method_2_code
def yX0_point : MethodName := ⟨RX0, "point", "(II)I"⟩
abbrev cX0_fuse : ByteArray := prog_1_method_3_code
def yX0_fuse : MethodName := ⟨RX0, "fuse", "(II)I"⟩
abbrev cX0_balance : ByteArray := prog_1_method_4_code
def yX0_balance : MethodName := ⟨RX0, "balance", "(I)I"⟩
abbrev cX0_rule : ByteArray := prog_1_method_5_code
def yX0_rule : MethodName := ⟨RX0, "rule", "(I)I"⟩
abbrev cX0_plugIn : ByteArray := prog_1_method_6_code
def yX0_plugIn : MethodName := ⟨RX0, "plugIn", "(IIII)I"⟩
abbrev cX0_takeOut : ByteArray := prog_1_method_7_code
def yX0_takeOut : MethodName := ⟨RX0, "takeOut", "(I)I"⟩
abbrev cX0_appetite : ByteArray := prog_1_method_8_code
def yX0_appetite : MethodName := ⟨RX0, "appetite", "(II)I"⟩
abbrev cX0_stay : ByteArray := prog_1_method_9_code
def yX0_stay : MethodName := ⟨RX0, "stay", "(II)I"⟩
abbrev cX0_step : ByteArray := prog_1_method_10_code
def yX0_step : MethodName := ⟨RX0, "step", "(I)I"⟩
abbrev cX0_time : ByteArray := prog_1_method_11_code
def yX0_time : MethodName := ⟨RX0, "time", "()I"⟩
abbrev cX0_points : ByteArray := prog_1_method_12_code
def yX0_points : MethodName := ⟨RX0, "points", "()I"⟩
abbrev cX0_taken : ByteArray := prog_1_method_13_code
def yX0_taken : MethodName := ⟨RX0, "taken", "()I"⟩
abbrev cX0_served : ByteArray := prog_1_method_14_code
def yX0_served : MethodName := ⟨RX0, "served", "()I"⟩
abbrev cX0_need : ByteArray := prog_1_method_15_code
def yX0_need : MethodName := ⟨RX0, "need", "(I)I"⟩
abbrev cX0_left : ByteArray := prog_1_method_16_code
def yX0_left : MethodName := ⟨RX0, "left", "(I)I"⟩
abbrev cX0_laxity : ByteArray := prog_1_method_17_code
def yX0_laxity : MethodName := ⟨RX0, "laxity", "(I)I"⟩
abbrev cX0_reach : ByteArray := prog_1_method_18_code
def yX0_reach : MethodName := ⟨RX0, "reach", "(I)I"⟩
abbrev cX0_current : ByteArray := prog_1_method_19_code
def yX0_current : MethodName := ⟨RX0, "current", "(I)I"⟩
abbrev cX0_load : ByteArray := prog_1_method_20_code
def yX0_load : MethodName := ⟨RX0, "load", "(I)I"⟩
abbrev cX0_imbalance : ByteArray := prog_1_method_21_code
def yX0_imbalance : MethodName := ⟨RX0, "imbalance", "()I"⟩
abbrev cX0_held : ByteArray := prog_1_method_22_code
def yX0_held : MethodName := ⟨RX0, "held", "()I"⟩
abbrev cX0_fairLevel : ByteArray := prog_1_method_23_code
def yX0_fairLevel : MethodName := ⟨RX0, "fairLevel", "(I)I"⟩
abbrev cX0_canBeReady : ByteArray := prog_1_method_24_code
def yX0_canBeReady : MethodName := ⟨RX0, "canBeReady", "()Z"⟩
abbrev cX0_requireWithin : ByteArray := prog_1_method_25_code
def yX0_requireWithin : MethodName := ⟨RX0, "requireWithin", "(III)V"⟩
abbrev cX0_requirePhase : ByteArray := prog_1_method_26_code
def yX0_requirePhase : MethodName := ⟨RX0, "requirePhase", "(I)V"⟩
abbrev cX0_requirePoint : ByteArray := prog_1_method_27_code
def yX0_requirePoint : MethodName := ⟨RX0, "requirePoint", "(I)V"⟩
abbrev cX0_requireCar : ByteArray := prog_1_method_28_code
def yX0_requireCar : MethodName := ⟨RX0, "requireCar", "(I)V"⟩
abbrev cX0_hasCar : ByteArray := prog_1_method_29_code
def yX0_hasCar : MethodName := ⟨RX0, "hasCar", "(I)Z"⟩
abbrev cX0_stepsLeftAt : ByteArray := prog_1_method_30_code
def yX0_stepsLeftAt : MethodName := ⟨RX0, "stepsLeftAt", "(I)I"⟩
abbrev cX0_lesserOfGreatestAndAppetite : ByteArray := prog_1_method_31_code
def yX0_lesserOfGreatestAndAppetite : MethodName := ⟨RX0, "lesserOfGreatestAndAppetite", "(I)I"⟩
abbrev cX0_unitsPerAmpere : ByteArray := prog_1_method_32_code
def yX0_unitsPerAmpere : MethodName := ⟨RX0, "unitsPerAmpere", "(I)I"⟩
abbrev cX0_laxityAt : ByteArray := prog_1_method_33_code
def yX0_laxityAt : MethodName := ⟨RX0, "laxityAt", "(I)I"⟩
abbrev cX0_isToBeGiven : ByteArray := prog_1_method_34_code
def yX0_isToBeGiven : MethodName := ⟨RX0, "isToBeGiven", "(I)Z"⟩
abbrev cX0_reachAt : ByteArray := prog_1_method_35_code
def yX0_reachAt : MethodName := ⟨RX0, "reachAt", "(I)I"⟩
abbrev cX0_dividedRoundedUp : ByteArray := prog_1_method_36_code
def yX0_dividedRoundedUp : MethodName := ⟨RX0, "dividedRoundedUp", "(II)I"⟩
abbrev cX0_shareCurrents : ByteArray := prog_1_method_37_code
def yX0_shareCurrents : MethodName := ⟨RX0, "shareCurrents", "()V"⟩
abbrev cX0_takeWhatIsGiven : ByteArray := prog_1_method_38_code
def yX0_takeWhatIsGiven : MethodName := ⟨RX0, "takeWhatIsGiven", "()V"⟩
abbrev cX0_startShares : ByteArray := prog_1_method_39_code
def yX0_startShares : MethodName := ⟨RX0, "startShares", "()V"⟩
abbrev cX0_isAt : ByteArray := prog_1_method_40_code
def yX0_isAt : MethodName := ⟨RX0, "isAt", "(II)Z"⟩
abbrev cX0_give : ByteArray := prog_1_method_41_code
def yX0_give : MethodName := ⟨RX0, "give", "(II)V"⟩
abbrev cX0_roomFor : ByteArray := prog_1_method_42_code
def yX0_roomFor : MethodName := ⟨RX0, "roomFor", "(I)I"⟩
abbrev cX0_shareByLaxity : ByteArray := prog_1_method_43_code
def yX0_shareByLaxity : MethodName := ⟨RX0, "shareByLaxity", "()V"⟩
abbrev cX0_putIntoTurns : ByteArray := prog_1_method_44_code
def yX0_putIntoTurns : MethodName := ⟨RX0, "putIntoTurns", "(II)V"⟩
abbrev cX0_shareFairly : ByteArray := prog_1_method_45_code
def yX0_shareFairly : MethodName := ⟨RX0, "shareFairly", "()V"⟩
abbrev cX0_raiseAll : ByteArray := prog_1_method_46_code
def yX0_raiseAll : MethodName := ⟨RX0, "raiseAll", "()Z"⟩
abbrev cX0_keepBalance : ByteArray := prog_1_method_47_code
def yX0_keepBalance : MethodName := ⟨RX0, "keepBalance", "()V"⟩
abbrev cX0_differenceOfLoads : ByteArray := prog_1_method_48_code
def yX0_differenceOfLoads : MethodName := ⟨RX0, "differenceOfLoads", "()I"⟩
abbrev cX0_phaseOfGreatestLoad : ByteArray := prog_1_method_49_code
def yX0_phaseOfGreatestLoad : MethodName := ⟨RX0, "phaseOfGreatestLoad", "()I"⟩
abbrev cX0_mostGivenAloneAt : ByteArray := prog_1_method_50_code
def yX0_mostGivenAloneAt : MethodName := ⟨RX0, "mostGivenAloneAt", "(I)I"⟩
abbrev cX0_givenAtAllPhases : ByteArray := prog_1_method_51_code
def yX0_givenAtAllPhases : MethodName := ⟨RX0, "givenAtAllPhases", "()I"⟩
abbrev cX0_usedAtLevel : ByteArray := prog_1_method_52_code
def yX0_usedAtLevel : MethodName := ⟨RX0, "usedAtLevel", "(II)I"⟩
def RX1 : String := "ChargeParkModel"
def TX1 : u_T := fun k => match k with
  | 0 => ("ChargeParkModel", "points", "I", false)
  | 1 => ("ChargeParkModel", "phase", "[I", true)
  | 2 => ("ChargeParkModel", "greatest", "[I", true)
  | 3 => ("ChargeParkModel", "car", "[Z", true)
  | 4 => ("ChargeParkModel", "need", "[I", true)
  | 5 => ("ChargeParkModel", "appetite", "[I", true)
  | 6 => ("ChargeParkModel", "leaves", "[I", true)
  | 7 => ("ChargeParkModel", "fuse", "[I", true)
  | 8 => ("ChargeParkModel", "balance", "I", false)
  | 9 => ("ChargeParkModel", "rule", "I", false)
  | 10 => ("ChargeParkModel", "time", "I", false)
  | 11 => ("ChargeParkModel", "taken", "I", false)
  | 12 => ("ChargeParkModel", "served", "I", false)
  | 13 => ("ChargeParkModel", "given", "[I", true)
  | 14 => ("ChargeParkModel", "passed", "[Z", true)
  | _ => ("ChargeParkModel", "thrown", "I", false)
def tyX1 : Nat → FieldType := fun k => match k with
  | 0 => .int
  | 1 => .array .int
  | 2 => .array .int
  | 3 => .array .boolean
  | 4 => .array .int
  | 5 => .array .int
  | 6 => .array .int
  | 7 => .array .int
  | 8 => .int
  | 9 => .int
  | 10 => .int
  | 11 => .int
  | 12 => .int
  | 13 => .array .int
  | 14 => .array .boolean
  | _ => .int
abbrev wsX10 : List Cond := u_ws RX1 TX1 16
theorem nmX1 : ∀ a, a < 16 → ∀ b, b < 16 → a ≠ b → (TX1 a).2.1 ≠ (TX1 b).2.1 := by decide +kernel
theorem tyX1_ok : ∀ k, k < 16 → parseFieldDescriptor (TX1 k).2.2.1 = some (tyX1 k) := by decide +kernel
abbrev cX1_init : ByteArray := prog_3_method_1_code
def yX1_init : MethodName := ⟨RX1, "<init>", "()V"⟩
abbrev cX1_thrown : ByteArray := prog_3_method_2_code
def yX1_thrown : MethodName := ⟨RX1, "thrown", "()I"⟩
abbrev cX1_isIn : ByteArray := prog_3_method_3_code
def yX1_isIn : MethodName := ⟨RX1, "isIn", "(III)Z"⟩
abbrev cX1_point : ByteArray := prog_3_method_4_code
def yX1_point : MethodName := ⟨RX1, "point", "(II)I"⟩
abbrev cX1_fuse : ByteArray := prog_3_method_5_code
def yX1_fuse : MethodName := ⟨RX1, "fuse", "(II)I"⟩
abbrev cX1_balance : ByteArray := prog_3_method_6_code
def yX1_balance : MethodName := ⟨RX1, "balance", "(I)I"⟩
abbrev cX1_rule : ByteArray := prog_3_method_7_code
def yX1_rule : MethodName := ⟨RX1, "rule", "(I)I"⟩
abbrev cX1_stepsLeft : ByteArray := prog_3_method_8_code
def yX1_stepsLeft : MethodName := ⟨RX1, "stepsLeft", "(I)I"⟩
abbrev cX1_times : ByteArray := prog_3_method_9_code
def yX1_times : MethodName := ⟨RX1, "times", "(I)I"⟩
abbrev cX1_up : ByteArray := prog_3_method_10_code
def yX1_up : MethodName := ⟨RX1, "up", "(II)I"⟩
abbrev cX1_most : ByteArray := prog_3_method_11_code
def yX1_most : MethodName := ⟨RX1, "most", "(I)I"⟩
abbrev cX1_lax : ByteArray := prog_3_method_12_code
def yX1_lax : MethodName := ⟨RX1, "lax", "(I)I"⟩
abbrev cX1_reaches : ByteArray := prog_3_method_13_code
def yX1_reaches : MethodName := ⟨RX1, "reaches", "(I)I"⟩
abbrev cX1_isPoint : ByteArray := prog_3_method_14_code
def yX1_isPoint : MethodName := ⟨RX1, "isPoint", "(I)Z"⟩
abbrev cX1_plugIn : ByteArray := prog_3_method_15_code
def yX1_plugIn : MethodName := ⟨RX1, "plugIn", "(IIII)I"⟩
abbrev cX1_takeOut : ByteArray := prog_3_method_16_code
def yX1_takeOut : MethodName := ⟨RX1, "takeOut", "(I)I"⟩
abbrev cX1_appetite : ByteArray := prog_3_method_17_code
def yX1_appetite : MethodName := ⟨RX1, "appetite", "(II)I"⟩
abbrev cX1_stay : ByteArray := prog_3_method_18_code
def yX1_stay : MethodName := ⟨RX1, "stay", "(II)I"⟩
abbrev cX1_flows : ByteArray := prog_3_method_19_code
def yX1_flows : MethodName := ⟨RX1, "flows", "(I)I"⟩
abbrev cX1_room : ByteArray := prog_3_method_20_code
def yX1_room : MethodName := ⟨RX1, "room", "(I)I"⟩
abbrev cX1_ahead : ByteArray := prog_3_method_21_code
def yX1_ahead : MethodName := ⟨RX1, "ahead", "(I)I"⟩
abbrev cX1_byLaxity : ByteArray := prog_3_method_22_code
def yX1_byLaxity : MethodName := ⟨RX1, "byLaxity", "()V"⟩
abbrev cX1_fairly : ByteArray := prog_3_method_23_code
def yX1_fairly : MethodName := ⟨RX1, "fairly", "()V"⟩
abbrev cX1_high : ByteArray := prog_3_method_24_code
def yX1_high : MethodName := ⟨RX1, "high", "()I"⟩
abbrev cX1_apart : ByteArray := prog_3_method_25_code
def yX1_apart : MethodName := ⟨RX1, "apart", "()I"⟩
abbrev cX1_giver : ByteArray := prog_3_method_26_code
def yX1_giver : MethodName := ⟨RX1, "giver", "(I)I"⟩
abbrev cX1_shares : ByteArray := prog_3_method_27_code
def yX1_shares : MethodName := ⟨RX1, "shares", "()V"⟩
abbrev cX1_step : ByteArray := prog_3_method_28_code
def yX1_step : MethodName := ⟨RX1, "step", "(I)I"⟩
abbrev cX1_time : ByteArray := prog_3_method_29_code
def yX1_time : MethodName := ⟨RX1, "time", "()I"⟩
abbrev cX1_points : ByteArray := prog_3_method_30_code
def yX1_points : MethodName := ⟨RX1, "points", "()I"⟩
abbrev cX1_taken : ByteArray := prog_3_method_31_code
def yX1_taken : MethodName := ⟨RX1, "taken", "()I"⟩
abbrev cX1_served : ByteArray := prog_3_method_32_code
def yX1_served : MethodName := ⟨RX1, "served", "()I"⟩
abbrev cX1_need : ByteArray := prog_3_method_33_code
def yX1_need : MethodName := ⟨RX1, "need", "(I)I"⟩
abbrev cX1_left : ByteArray := prog_3_method_34_code
def yX1_left : MethodName := ⟨RX1, "left", "(I)I"⟩
abbrev cX1_laxity : ByteArray := prog_3_method_35_code
def yX1_laxity : MethodName := ⟨RX1, "laxity", "(I)I"⟩
abbrev cX1_reach : ByteArray := prog_3_method_36_code
def yX1_reach : MethodName := ⟨RX1, "reach", "(I)I"⟩
abbrev cX1_current : ByteArray := prog_3_method_37_code
def yX1_current : MethodName := ⟨RX1, "current", "(I)I"⟩
abbrev cX1_load : ByteArray := prog_3_method_38_code
def yX1_load : MethodName := ⟨RX1, "load", "(I)I"⟩
abbrev cX1_imbalance : ByteArray := prog_3_method_39_code
def yX1_imbalance : MethodName := ⟨RX1, "imbalance", "()I"⟩
abbrev cX1_held : ByteArray := prog_3_method_40_code
def yX1_held : MethodName := ⟨RX1, "held", "()I"⟩
abbrev cX1_fairLevel : ByteArray := prog_3_method_41_code
def yX1_fairLevel : MethodName := ⟨RX1, "fairLevel", "(I)I"⟩
abbrev cX1_canBeReady : ByteArray := prog_3_method_42_code
def yX1_canBeReady : MethodName := ⟨RX1, "canBeReady", "()Z"⟩
def RJ9 : String := "java/lang/Math"
def TJ9 : u_T := fun k => match k with
  | _ => ("", "", "", false)
def tyJ9 : Nat → FieldType := fun k => match k with
  | _ => .int
abbrev wsJ90 : List Cond := u_ws RJ9 TJ9 0
theorem nmJ9 : ∀ a, a < 0 → ∀ b, b < 0 → a ≠ b → (TJ9 a).2.1 ≠ (TJ9 b).2.1 := by decide +kernel
theorem tyJ9_ok : ∀ k, k < 0 → parseFieldDescriptor (TJ9 k).2.2.1 = some (tyJ9 k) := by decide +kernel
abbrev cJ9_max_7cf53 : ByteArray := prog_8_method_65_code
def yJ9_max_7cf53 : MethodName := ⟨RJ9, "max", "(II)I"⟩
abbrev cJ9_min_7cf53 : ByteArray := prog_8_method_69_code
def yJ9_min_7cf53 : MethodName := ⟨RJ9, "min", "(II)I"⟩
def RJ0 : String := "java/lang/String"
def TJ0 : u_T := fun k => match k with
  | _ => ("", "", "", false)
def tyJ0 : Nat → FieldType := fun k => match k with
  | _ => .int
abbrev wsJ00 : List Cond := u_ws RJ0 TJ0 0
theorem nmJ0 : ∀ a, a < 0 → ∀ b, b < 0 → a ≠ b → (TJ0 a).2.1 ≠ (TJ0 b).2.1 := by decide +kernel
theorem tyJ0_ok : ∀ k, k < 0 → parseFieldDescriptor (TJ0 k).2.2.1 = some (tyJ0 k) := by decide +kernel
def RL : String := "ChargeParkLaw"
abbrev cL_point : ByteArray := method_3_code
def yL_point : MethodName := ⟨RL, "point", "(LChargePark;II[J)I"⟩
abbrev cL_fuse : ByteArray := method_4_code
def yL_fuse : MethodName := ⟨RL, "fuse", "(LChargePark;II[J)I"⟩
abbrev cL_balance : ByteArray := method_5_code
def yL_balance : MethodName := ⟨RL, "balance", "(LChargePark;I[J)I"⟩
abbrev cL_rule : ByteArray := method_6_code
def yL_rule : MethodName := ⟨RL, "rule", "(LChargePark;I[J)I"⟩
abbrev cL_plugIn : ByteArray := method_7_code
def yL_plugIn : MethodName := ⟨RL, "plugIn", "(LChargePark;IIII[J)I"⟩
abbrev cL_takeOut : ByteArray := method_8_code
def yL_takeOut : MethodName := ⟨RL, "takeOut", "(LChargePark;I[J)I"⟩
abbrev cL_appetite : ByteArray := method_9_code
def yL_appetite : MethodName := ⟨RL, "appetite", "(LChargePark;II[J)I"⟩
abbrev cL_stay : ByteArray := method_10_code
def yL_stay : MethodName := ⟨RL, "stay", "(LChargePark;II[J)I"⟩
abbrev cL_step : ByteArray := method_11_code
def yL_step : MethodName := ⟨RL, "step", "(LChargePark;I[J)I"⟩
abbrev cL_need : ByteArray := method_12_code
def yL_need : MethodName := ⟨RL, "need", "(LChargePark;I[J)I"⟩
abbrev cL_left : ByteArray := method_13_code
def yL_left : MethodName := ⟨RL, "left", "(LChargePark;I[J)I"⟩
abbrev cL_laxity : ByteArray := method_14_code
def yL_laxity : MethodName := ⟨RL, "laxity", "(LChargePark;I[J)I"⟩
abbrev cL_reach : ByteArray := method_15_code
def yL_reach : MethodName := ⟨RL, "reach", "(LChargePark;I[J)I"⟩
abbrev cL_current : ByteArray := method_16_code
def yL_current : MethodName := ⟨RL, "current", "(LChargePark;I[J)I"⟩
abbrev cL_load : ByteArray := method_17_code
def yL_load : MethodName := ⟨RL, "load", "(LChargePark;I[J)I"⟩
abbrev cL_fairLevel : ByteArray := method_18_code
def yL_fairLevel : MethodName := ⟨RL, "fairLevel", "(LChargePark;I[J)I"⟩
abbrev cL_law : ByteArray := code
def yL_law : MethodName := ⟨RL, "law", "([I)Z"⟩
def wsX0_init : List Cond := .code yX0_init cX0_init 2 none :: ([.methodLink RX0 1 objectInit, .instanceMethod objectInit, .code objectInit ⟨#[0xb1]⟩ 1 none, .arrayClass .int, .fieldLink RX0 9 "ChargePark" "phaseOf" "[I", .fieldLink RX0 13 "ChargePark" "greatestOf" "[I", .fieldLink RX0 16 "ChargePark" "needOf" "[I", .fieldLink RX0 19 "ChargePark" "appetiteOf" "[I", .fieldLink RX0 22 "ChargePark" "leavesAt" "[I", .fieldLink RX0 25 "ChargePark" "wanted" "[I", .fieldLink RX0 28 "ChargePark" "given" "[I", .fieldLink RX0 31 "ChargePark" "turns" "[I", .fieldLink RX0 34 "ChargePark" "loadOf" "[I", .fieldLink RX0 37 "ChargePark" "fuseOf" "[I", .fieldLink RX0 40 "ChargePark" "greatestDifference" "I", .fieldLink RX0 44 "ChargePark" "ruleInUse" "I"] ++ wsX00)
def wsX0_requirePhase : List Cond := .code yX0_requirePhase cX0_requirePhase 1 none :: ([.classLink RX0 118 "java/lang/IllegalArgumentException", .initialized "java/lang/IllegalArgumentException"] ++ (vx_atS RX0 122 "java/lang/IllegalArgumentException" ["java/lang/RuntimeException", "java/lang/Exception"]).filter goodWord)
def wsX0_requireWithin : List Cond := .code yX0_requireWithin cX0_requireWithin 3 none :: ([.classLink RX0 118 "java/lang/IllegalArgumentException", .initialized "java/lang/IllegalArgumentException"] ++ (vx_atS RX0 122 "java/lang/IllegalArgumentException" ["java/lang/RuntimeException", "java/lang/Exception"]).filter goodWord)
def wsX0_point : List Cond := .code yX0_point cX0_point 4 (some .int) :: ([.classLink RX0 58 "java/lang/IllegalStateException", .initialized "java/lang/IllegalStateException", .fieldLink RX0 55 "ChargePark" "pointCount" "I", .fieldLink RX0 9 "ChargePark" "phaseOf" "[I", .fieldLink RX0 13 "ChargePark" "greatestOf" "[I", .fieldLink RX0 16 "ChargePark" "needOf" "[I", .methodLink RX0 47 yX0_requirePhase, .static yX0_requirePhase, .initialized RX0, .code yX0_requirePhase cX0_requirePhase 1 none, .classLink RX0 118 "java/lang/IllegalArgumentException", .initialized "java/lang/IllegalArgumentException", .methodLink RX0 51 yX0_requireWithin, .static yX0_requireWithin, .code yX0_requireWithin cX0_requireWithin 3 none] ++ wsX00 ++ (vx_atS RX0 62 "java/lang/IllegalStateException" ["java/lang/RuntimeException", "java/lang/Exception"]).filter goodWord ++ (vx_atS RX0 122 "java/lang/IllegalArgumentException" ["java/lang/RuntimeException", "java/lang/Exception"]).filter goodWord)
def wsX0_fuse : List Cond := .code yX0_fuse cX0_fuse 4 (some .int) :: ([.fieldLink RX0 37 "ChargePark" "fuseOf" "[I", .methodLink RX0 47 yX0_requirePhase, .static yX0_requirePhase, .initialized RX0, .code yX0_requirePhase cX0_requirePhase 1 none, .classLink RX0 118 "java/lang/IllegalArgumentException", .initialized "java/lang/IllegalArgumentException", .methodLink RX0 51 yX0_requireWithin, .static yX0_requireWithin, .code yX0_requireWithin cX0_requireWithin 3 none] ++ wsX00 ++ (vx_atS RX0 122 "java/lang/IllegalArgumentException" ["java/lang/RuntimeException", "java/lang/Exception"]).filter goodWord)
def wsX0_balance : List Cond := .code yX0_balance cX0_balance 3 (some .int) :: ([.fieldLink RX0 40 "ChargePark" "greatestDifference" "I", .methodLink RX0 51 yX0_requireWithin, .static yX0_requireWithin, .initialized RX0, .code yX0_requireWithin cX0_requireWithin 3 none, .classLink RX0 118 "java/lang/IllegalArgumentException", .initialized "java/lang/IllegalArgumentException"] ++ wsX00 ++ (vx_atS RX0 122 "java/lang/IllegalArgumentException" ["java/lang/RuntimeException", "java/lang/Exception"]).filter goodWord)
def wsX0_rule : List Cond := .code yX0_rule cX0_rule 3 (some .int) :: ([.fieldLink RX0 44 "ChargePark" "ruleInUse" "I", .methodLink RX0 51 yX0_requireWithin, .static yX0_requireWithin, .initialized RX0, .code yX0_requireWithin cX0_requireWithin 3 none, .classLink RX0 118 "java/lang/IllegalArgumentException", .initialized "java/lang/IllegalArgumentException"] ++ wsX00 ++ (vx_atS RX0 122 "java/lang/IllegalArgumentException" ["java/lang/RuntimeException", "java/lang/Exception"]).filter goodWord)
def wsX0_requirePoint : List Cond := .code yX0_requirePoint cX0_requirePoint 2 none :: ([.classLink RX0 125 "java/lang/IndexOutOfBoundsException", .initialized "java/lang/IndexOutOfBoundsException", .fieldLink RX0 55 "ChargePark" "pointCount" "I"] ++ wsX00 ++ (vx_atS RX0 129 "java/lang/IndexOutOfBoundsException" ["java/lang/RuntimeException", "java/lang/Exception"]).filter goodWord)
def wsX0_hasCar : List Cond := .code yX0_hasCar cX0_hasCar 2 (some .boolean) :: ([.fieldLink RX0 16 "ChargePark" "needOf" "[I"] ++ wsX00)
def wsX0_lesserOfGreatestAndAppetite : List Cond := .code yX0_lesserOfGreatestAndAppetite cX0_lesserOfGreatestAndAppetite 2 (some .int) :: ([.fieldLink RX0 13 "ChargePark" "greatestOf" "[I", .fieldLink RX0 19 "ChargePark" "appetiteOf" "[I", .methodLink RX0 132 Lib.Math.min.name, .static Lib.Math.min.name, .initialized "java/lang/Math", .code Lib.Math.min.name Lib.Math.min.code 2 (some .int)] ++ wsX00)
def wsX0_unitsPerAmpere : List Cond := .code yX0_unitsPerAmpere cX0_unitsPerAmpere 2 (some .int) :: ([.fieldLink RX0 9 "ChargePark" "phaseOf" "[I"] ++ wsX00)
def wsX0_stepsLeftAt : List Cond := .code yX0_stepsLeftAt cX0_stepsLeftAt 2 (some .int) :: ([.fieldLink RX0 22 "ChargePark" "leavesAt" "[I", .fieldLink RX0 74 "ChargePark" "now" "I", .methodLink RX0 87 Lib.Math.max.name, .static Lib.Math.max.name, .initialized "java/lang/Math", .code Lib.Math.max.name Lib.Math.max.code 2 (some .int)] ++ wsX00)
def wsX0_dividedRoundedUp : List Cond := .code yX0_dividedRoundedUp cX0_dividedRoundedUp 2 (some .int) :: ([])
def wsX0_laxityAt_r1 : List Cond := [Cond.fieldLink RX0 16 "ChargePark" "needOf" "[I", Cond.methodLink RX0 135 yX0_lesserOfGreatestAndAppetite, Cond.instanceMethod yX0_lesserOfGreatestAndAppetite, Cond.selects RX0 yX0_lesserOfGreatestAndAppetite yX0_lesserOfGreatestAndAppetite, Cond.initialized RX0, Cond.code yX0_lesserOfGreatestAndAppetite cX0_lesserOfGreatestAndAppetite 2 (some .int), Cond.fieldLink RX0 13 "ChargePark" "greatestOf" "[I", Cond.fieldLink RX0 19 "ChargePark" "appetiteOf" "[I", Cond.methodLink RX0 132 Lib.Math.min.name, Cond.static Lib.Math.min.name, Cond.initialized "java/lang/Math", Cond.code Lib.Math.min.name Lib.Math.min.code 2 (some .int), Cond.methodLink RX0 138 yX0_unitsPerAmpere, Cond.instanceMethod yX0_unitsPerAmpere, Cond.selects RX0 yX0_unitsPerAmpere yX0_unitsPerAmpere, Cond.code yX0_unitsPerAmpere cX0_unitsPerAmpere 2 (some .int), Cond.fieldLink RX0 9 "ChargePark" "phaseOf" "[I", Cond.methodLink RX0 93 yX0_stepsLeftAt, Cond.instanceMethod yX0_stepsLeftAt, Cond.selects RX0 yX0_stepsLeftAt yX0_stepsLeftAt, Cond.code yX0_stepsLeftAt cX0_stepsLeftAt 2 (some .int), Cond.fieldLink RX0 22 "ChargePark" "leavesAt" "[I", Cond.fieldLink RX0 74 "ChargePark" "now" "I", Cond.methodLink RX0 87 Lib.Math.max.name]
def wsX0_laxityAt_r2 : List Cond := [Cond.static Lib.Math.max.name, Cond.code Lib.Math.max.name Lib.Math.max.code 2 (some .int), Cond.methodLink RX0 141 yX0_dividedRoundedUp, Cond.static yX0_dividedRoundedUp, Cond.code yX0_dividedRoundedUp cX0_dividedRoundedUp 2 (some .int)]
def wsX0_laxityAt : List Cond := .code yX0_laxityAt cX0_laxityAt 3 (some .int) :: ((wsX0_laxityAt_r1 ++ wsX0_laxityAt_r2) ++ wsX00)
def wsX0_plugIn_r1 : List Cond := [Cond.classLink RX0 58 "java/lang/IllegalStateException", Cond.initialized "java/lang/IllegalStateException", Cond.fieldLink RX0 16 "ChargePark" "needOf" "[I", Cond.fieldLink RX0 19 "ChargePark" "appetiteOf" "[I", Cond.fieldLink RX0 22 "ChargePark" "leavesAt" "[I", Cond.fieldLink RX0 74 "ChargePark" "now" "I", Cond.methodLink RX0 65 yX0_requirePoint, Cond.instanceMethod yX0_requirePoint, Cond.selects RX0 yX0_requirePoint yX0_requirePoint, Cond.initialized RX0, Cond.code yX0_requirePoint cX0_requirePoint 2 none, Cond.classLink RX0 125 "java/lang/IndexOutOfBoundsException", Cond.initialized "java/lang/IndexOutOfBoundsException", Cond.fieldLink RX0 55 "ChargePark" "pointCount" "I", Cond.methodLink RX0 51 yX0_requireWithin, Cond.static yX0_requireWithin, Cond.code yX0_requireWithin cX0_requireWithin 3 none, Cond.classLink RX0 118 "java/lang/IllegalArgumentException", Cond.initialized "java/lang/IllegalArgumentException", Cond.methodLink RX0 68 yX0_hasCar, Cond.instanceMethod yX0_hasCar, Cond.selects RX0 yX0_hasCar yX0_hasCar, Cond.code yX0_hasCar cX0_hasCar 2 (some .boolean), Cond.methodLink RX0 77 yX0_laxityAt]
def wsX0_plugIn_r2 : List Cond := [Cond.instanceMethod yX0_laxityAt, Cond.selects RX0 yX0_laxityAt yX0_laxityAt, Cond.code yX0_laxityAt cX0_laxityAt 3 (some .int), Cond.methodLink RX0 135 yX0_lesserOfGreatestAndAppetite, Cond.instanceMethod yX0_lesserOfGreatestAndAppetite, Cond.selects RX0 yX0_lesserOfGreatestAndAppetite yX0_lesserOfGreatestAndAppetite, Cond.code yX0_lesserOfGreatestAndAppetite cX0_lesserOfGreatestAndAppetite 2 (some .int), Cond.fieldLink RX0 13 "ChargePark" "greatestOf" "[I", Cond.methodLink RX0 132 Lib.Math.min.name, Cond.static Lib.Math.min.name, Cond.initialized "java/lang/Math", Cond.code Lib.Math.min.name Lib.Math.min.code 2 (some .int), Cond.methodLink RX0 138 yX0_unitsPerAmpere, Cond.instanceMethod yX0_unitsPerAmpere, Cond.selects RX0 yX0_unitsPerAmpere yX0_unitsPerAmpere, Cond.code yX0_unitsPerAmpere cX0_unitsPerAmpere 2 (some .int), Cond.fieldLink RX0 9 "ChargePark" "phaseOf" "[I", Cond.methodLink RX0 93 yX0_stepsLeftAt, Cond.instanceMethod yX0_stepsLeftAt, Cond.selects RX0 yX0_stepsLeftAt yX0_stepsLeftAt, Cond.code yX0_stepsLeftAt cX0_stepsLeftAt 2 (some .int), Cond.methodLink RX0 87 Lib.Math.max.name, Cond.static Lib.Math.max.name, Cond.code Lib.Math.max.name Lib.Math.max.code 2 (some .int)]
def wsX0_plugIn_r3 : List Cond := [Cond.methodLink RX0 141 yX0_dividedRoundedUp, Cond.static yX0_dividedRoundedUp, Cond.code yX0_dividedRoundedUp cX0_dividedRoundedUp 2 (some .int)]
def wsX0_plugIn : List Cond := .code yX0_plugIn cX0_plugIn 5 (some .int) :: ((wsX0_plugIn_r1 ++ (wsX0_plugIn_r2 ++ wsX0_plugIn_r3)) ++ wsX00 ++ (vx_atS RX0 62 "java/lang/IllegalStateException" ["java/lang/RuntimeException", "java/lang/Exception"]).filter goodWord ++ (vx_atS RX0 129 "java/lang/IndexOutOfBoundsException" ["java/lang/RuntimeException", "java/lang/Exception"]).filter goodWord ++ (vx_atS RX0 122 "java/lang/IllegalArgumentException" ["java/lang/RuntimeException", "java/lang/Exception"]).filter goodWord)
def wsX0_requireCar : List Cond := .code yX0_requireCar cX0_requireCar 2 none :: ([.classLink RX0 58 "java/lang/IllegalStateException", .initialized "java/lang/IllegalStateException", .methodLink RX0 68 yX0_hasCar, .instanceMethod yX0_hasCar, .selects RX0 yX0_hasCar yX0_hasCar, .initialized RX0, .code yX0_hasCar cX0_hasCar 2 (some .boolean), .fieldLink RX0 16 "ChargePark" "needOf" "[I"] ++ wsX00 ++ (vx_atS RX0 62 "java/lang/IllegalStateException" ["java/lang/RuntimeException", "java/lang/Exception"]).filter goodWord)
def wsX0_takeOut : List Cond := .code yX0_takeOut cX0_takeOut 3 (some .int) :: ([.fieldLink RX0 16 "ChargePark" "needOf" "[I", .fieldLink RX0 84 "ChargePark" "servedCars" "I", .methodLink RX0 65 yX0_requirePoint, .instanceMethod yX0_requirePoint, .selects RX0 yX0_requirePoint yX0_requirePoint, .initialized RX0, .code yX0_requirePoint cX0_requirePoint 2 none, .classLink RX0 125 "java/lang/IndexOutOfBoundsException", .initialized "java/lang/IndexOutOfBoundsException", .fieldLink RX0 55 "ChargePark" "pointCount" "I", .methodLink RX0 81 yX0_requireCar, .instanceMethod yX0_requireCar, .selects RX0 yX0_requireCar yX0_requireCar, .code yX0_requireCar cX0_requireCar 2 none, .classLink RX0 58 "java/lang/IllegalStateException", .initialized "java/lang/IllegalStateException", .methodLink RX0 68 yX0_hasCar, .instanceMethod yX0_hasCar, .selects RX0 yX0_hasCar yX0_hasCar, .code yX0_hasCar cX0_hasCar 2 (some .boolean)] ++ wsX00 ++ (vx_atS RX0 129 "java/lang/IndexOutOfBoundsException" ["java/lang/RuntimeException", "java/lang/Exception"]).filter goodWord ++ (vx_atS RX0 62 "java/lang/IllegalStateException" ["java/lang/RuntimeException", "java/lang/Exception"]).filter goodWord)
def wsX0_appetite_r1 : List Cond := [Cond.fieldLink RX0 19 "ChargePark" "appetiteOf" "[I", Cond.methodLink RX0 65 yX0_requirePoint, Cond.instanceMethod yX0_requirePoint, Cond.selects RX0 yX0_requirePoint yX0_requirePoint, Cond.initialized RX0, Cond.code yX0_requirePoint cX0_requirePoint 2 none, Cond.classLink RX0 125 "java/lang/IndexOutOfBoundsException", Cond.initialized "java/lang/IndexOutOfBoundsException", Cond.fieldLink RX0 55 "ChargePark" "pointCount" "I", Cond.methodLink RX0 51 yX0_requireWithin, Cond.static yX0_requireWithin, Cond.code yX0_requireWithin cX0_requireWithin 3 none, Cond.classLink RX0 118 "java/lang/IllegalArgumentException", Cond.initialized "java/lang/IllegalArgumentException", Cond.methodLink RX0 81 yX0_requireCar, Cond.instanceMethod yX0_requireCar, Cond.selects RX0 yX0_requireCar yX0_requireCar, Cond.code yX0_requireCar cX0_requireCar 2 none, Cond.classLink RX0 58 "java/lang/IllegalStateException", Cond.initialized "java/lang/IllegalStateException", Cond.methodLink RX0 68 yX0_hasCar, Cond.instanceMethod yX0_hasCar, Cond.selects RX0 yX0_hasCar yX0_hasCar, Cond.code yX0_hasCar cX0_hasCar 2 (some .boolean)]
def wsX0_appetite_r2 : List Cond := [Cond.fieldLink RX0 16 "ChargePark" "needOf" "[I"]
def wsX0_appetite : List Cond := .code yX0_appetite cX0_appetite 4 (some .int) :: ((wsX0_appetite_r1 ++ wsX0_appetite_r2) ++ wsX00 ++ (vx_atS RX0 129 "java/lang/IndexOutOfBoundsException" ["java/lang/RuntimeException", "java/lang/Exception"]).filter goodWord ++ (vx_atS RX0 122 "java/lang/IllegalArgumentException" ["java/lang/RuntimeException", "java/lang/Exception"]).filter goodWord ++ (vx_atS RX0 62 "java/lang/IllegalStateException" ["java/lang/RuntimeException", "java/lang/Exception"]).filter goodWord)
def wsX0_stay_r1 : List Cond := [Cond.fieldLink RX0 22 "ChargePark" "leavesAt" "[I", Cond.fieldLink RX0 74 "ChargePark" "now" "I", Cond.methodLink RX0 87 Lib.Math.max.name, Cond.static Lib.Math.max.name, Cond.initialized "java/lang/Math", Cond.code Lib.Math.max.name Lib.Math.max.code 2 (some .int), Cond.methodLink RX0 65 yX0_requirePoint, Cond.instanceMethod yX0_requirePoint, Cond.selects RX0 yX0_requirePoint yX0_requirePoint, Cond.initialized RX0, Cond.code yX0_requirePoint cX0_requirePoint 2 none, Cond.classLink RX0 125 "java/lang/IndexOutOfBoundsException", Cond.initialized "java/lang/IndexOutOfBoundsException", Cond.fieldLink RX0 55 "ChargePark" "pointCount" "I", Cond.methodLink RX0 51 yX0_requireWithin, Cond.static yX0_requireWithin, Cond.code yX0_requireWithin cX0_requireWithin 3 none, Cond.classLink RX0 118 "java/lang/IllegalArgumentException", Cond.initialized "java/lang/IllegalArgumentException", Cond.methodLink RX0 81 yX0_requireCar, Cond.instanceMethod yX0_requireCar, Cond.selects RX0 yX0_requireCar yX0_requireCar, Cond.code yX0_requireCar cX0_requireCar 2 none, Cond.classLink RX0 58 "java/lang/IllegalStateException"]
def wsX0_stay_r2 : List Cond := [Cond.initialized "java/lang/IllegalStateException", Cond.methodLink RX0 68 yX0_hasCar, Cond.instanceMethod yX0_hasCar, Cond.selects RX0 yX0_hasCar yX0_hasCar, Cond.code yX0_hasCar cX0_hasCar 2 (some .boolean), Cond.fieldLink RX0 16 "ChargePark" "needOf" "[I", Cond.methodLink RX0 93 yX0_stepsLeftAt, Cond.instanceMethod yX0_stepsLeftAt, Cond.selects RX0 yX0_stepsLeftAt yX0_stepsLeftAt, Cond.code yX0_stepsLeftAt cX0_stepsLeftAt 2 (some .int)]
def wsX0_stay : List Cond := .code yX0_stay cX0_stay 3 (some .int) :: ((wsX0_stay_r1 ++ wsX0_stay_r2) ++ wsX00 ++ (vx_atS RX0 129 "java/lang/IndexOutOfBoundsException" ["java/lang/RuntimeException", "java/lang/Exception"]).filter goodWord ++ (vx_atS RX0 122 "java/lang/IllegalArgumentException" ["java/lang/RuntimeException", "java/lang/Exception"]).filter goodWord ++ (vx_atS RX0 62 "java/lang/IllegalStateException" ["java/lang/RuntimeException", "java/lang/Exception"]).filter goodWord)
def wsX0_isToBeGiven : List Cond := .code yX0_isToBeGiven cX0_isToBeGiven 2 (some .boolean) :: ([.fieldLink RX0 16 "ChargePark" "needOf" "[I", .fieldLink RX0 22 "ChargePark" "leavesAt" "[I", .fieldLink RX0 74 "ChargePark" "now" "I"] ++ wsX00)
def wsX0_reachAt_r1 : List Cond := [Cond.fieldLink RX0 16 "ChargePark" "needOf" "[I", Cond.methodLink RX0 132 Lib.Math.min.name, Cond.static Lib.Math.min.name, Cond.initialized "java/lang/Math", Cond.code Lib.Math.min.name Lib.Math.min.code 2 (some .int), Cond.methodLink RX0 144 yX0_isToBeGiven, Cond.instanceMethod yX0_isToBeGiven, Cond.selects RX0 yX0_isToBeGiven yX0_isToBeGiven, Cond.initialized RX0, Cond.code yX0_isToBeGiven cX0_isToBeGiven 2 (some .boolean), Cond.fieldLink RX0 22 "ChargePark" "leavesAt" "[I", Cond.fieldLink RX0 74 "ChargePark" "now" "I", Cond.methodLink RX0 138 yX0_unitsPerAmpere, Cond.instanceMethod yX0_unitsPerAmpere, Cond.selects RX0 yX0_unitsPerAmpere yX0_unitsPerAmpere, Cond.code yX0_unitsPerAmpere cX0_unitsPerAmpere 2 (some .int), Cond.fieldLink RX0 9 "ChargePark" "phaseOf" "[I", Cond.methodLink RX0 141 yX0_dividedRoundedUp, Cond.static yX0_dividedRoundedUp, Cond.code yX0_dividedRoundedUp cX0_dividedRoundedUp 2 (some .int), Cond.methodLink RX0 135 yX0_lesserOfGreatestAndAppetite, Cond.instanceMethod yX0_lesserOfGreatestAndAppetite, Cond.selects RX0 yX0_lesserOfGreatestAndAppetite yX0_lesserOfGreatestAndAppetite, Cond.code yX0_lesserOfGreatestAndAppetite cX0_lesserOfGreatestAndAppetite 2 (some .int)]
def wsX0_reachAt_r2 : List Cond := [Cond.fieldLink RX0 13 "ChargePark" "greatestOf" "[I", Cond.fieldLink RX0 19 "ChargePark" "appetiteOf" "[I"]
def wsX0_reachAt : List Cond := .code yX0_reachAt cX0_reachAt 3 (some .int) :: ((wsX0_reachAt_r1 ++ wsX0_reachAt_r2) ++ wsX00)
def wsX0_startShares_r1 : List Cond := [Cond.fieldLink RX0 55 "ChargePark" "pointCount" "I", Cond.fieldLink RX0 28 "ChargePark" "given" "[I", Cond.fieldLink RX0 25 "ChargePark" "wanted" "[I", Cond.fieldLink RX0 34 "ChargePark" "loadOf" "[I", Cond.methodLink RX0 105 yX0_reachAt, Cond.instanceMethod yX0_reachAt, Cond.selects RX0 yX0_reachAt yX0_reachAt, Cond.initialized RX0, Cond.code yX0_reachAt cX0_reachAt 3 (some .int), Cond.fieldLink RX0 16 "ChargePark" "needOf" "[I", Cond.methodLink RX0 132 Lib.Math.min.name, Cond.static Lib.Math.min.name, Cond.initialized "java/lang/Math", Cond.code Lib.Math.min.name Lib.Math.min.code 2 (some .int), Cond.methodLink RX0 144 yX0_isToBeGiven, Cond.instanceMethod yX0_isToBeGiven, Cond.selects RX0 yX0_isToBeGiven yX0_isToBeGiven, Cond.code yX0_isToBeGiven cX0_isToBeGiven 2 (some .boolean), Cond.fieldLink RX0 22 "ChargePark" "leavesAt" "[I", Cond.fieldLink RX0 74 "ChargePark" "now" "I", Cond.methodLink RX0 138 yX0_unitsPerAmpere, Cond.instanceMethod yX0_unitsPerAmpere, Cond.selects RX0 yX0_unitsPerAmpere yX0_unitsPerAmpere, Cond.code yX0_unitsPerAmpere cX0_unitsPerAmpere 2 (some .int)]
def wsX0_startShares_r2 : List Cond := [Cond.fieldLink RX0 9 "ChargePark" "phaseOf" "[I", Cond.methodLink RX0 141 yX0_dividedRoundedUp, Cond.static yX0_dividedRoundedUp, Cond.code yX0_dividedRoundedUp cX0_dividedRoundedUp 2 (some .int), Cond.methodLink RX0 135 yX0_lesserOfGreatestAndAppetite, Cond.instanceMethod yX0_lesserOfGreatestAndAppetite, Cond.selects RX0 yX0_lesserOfGreatestAndAppetite yX0_lesserOfGreatestAndAppetite, Cond.code yX0_lesserOfGreatestAndAppetite cX0_lesserOfGreatestAndAppetite 2 (some .int), Cond.fieldLink RX0 13 "ChargePark" "greatestOf" "[I", Cond.fieldLink RX0 19 "ChargePark" "appetiteOf" "[I"]
def wsX0_startShares : List Cond := .code yX0_startShares cX0_startShares 2 none :: ((wsX0_startShares_r1 ++ wsX0_startShares_r2) ++ wsX00)
def wsX0_isAt : List Cond := .code yX0_isAt cX0_isAt 3 (some .boolean) :: ([.fieldLink RX0 9 "ChargePark" "phaseOf" "[I"] ++ wsX00)
def wsX0_roomFor : List Cond := .code yX0_roomFor cX0_roomFor 4 (some .int) :: ([.fieldLink RX0 37 "ChargePark" "fuseOf" "[I", .fieldLink RX0 34 "ChargePark" "loadOf" "[I", .methodLink RX0 132 Lib.Math.min.name, .static Lib.Math.min.name, .initialized "java/lang/Math", .code Lib.Math.min.name Lib.Math.min.code 2 (some .int), .methodLink RX0 159 yX0_isAt, .instanceMethod yX0_isAt, .selects RX0 yX0_isAt yX0_isAt, .initialized RX0, .code yX0_isAt cX0_isAt 3 (some .boolean), .fieldLink RX0 9 "ChargePark" "phaseOf" "[I"] ++ wsX00)
def wsX0_give : List Cond := .code yX0_give cX0_give 4 none :: ([.fieldLink RX0 28 "ChargePark" "given" "[I", .fieldLink RX0 34 "ChargePark" "loadOf" "[I", .methodLink RX0 159 yX0_isAt, .instanceMethod yX0_isAt, .selects RX0 yX0_isAt yX0_isAt, .initialized RX0, .code yX0_isAt cX0_isAt 3 (some .boolean), .fieldLink RX0 9 "ChargePark" "phaseOf" "[I"] ++ wsX00)
def wsX0_raiseAll : List Cond := .code yX0_raiseAll cX0_raiseAll 3 (some .boolean) :: ([.fieldLink RX0 55 "ChargePark" "pointCount" "I", .fieldLink RX0 28 "ChargePark" "given" "[I", .fieldLink RX0 25 "ChargePark" "wanted" "[I", .methodLink RX0 167 yX0_roomFor, .instanceMethod yX0_roomFor, .selects RX0 yX0_roomFor yX0_roomFor, .initialized RX0, .code yX0_roomFor cX0_roomFor 4 (some .int), .fieldLink RX0 37 "ChargePark" "fuseOf" "[I", .fieldLink RX0 34 "ChargePark" "loadOf" "[I", .methodLink RX0 132 Lib.Math.min.name, .static Lib.Math.min.name, .initialized "java/lang/Math", .code Lib.Math.min.name Lib.Math.min.code 2 (some .int), .methodLink RX0 159 yX0_isAt, .instanceMethod yX0_isAt, .selects RX0 yX0_isAt yX0_isAt, .code yX0_isAt cX0_isAt 3 (some .boolean), .fieldLink RX0 9 "ChargePark" "phaseOf" "[I", .methodLink RX0 170 yX0_give, .instanceMethod yX0_give, .selects RX0 yX0_give yX0_give, .code yX0_give cX0_give 4 none] ++ wsX00)
def wsX0_shareFairly_r1 : List Cond := [Cond.methodLink RX0 173 yX0_raiseAll, Cond.instanceMethod yX0_raiseAll, Cond.selects RX0 yX0_raiseAll yX0_raiseAll, Cond.initialized RX0, Cond.code yX0_raiseAll cX0_raiseAll 3 (some .boolean), Cond.fieldLink RX0 55 "ChargePark" "pointCount" "I", Cond.fieldLink RX0 28 "ChargePark" "given" "[I", Cond.fieldLink RX0 25 "ChargePark" "wanted" "[I", Cond.methodLink RX0 167 yX0_roomFor, Cond.instanceMethod yX0_roomFor, Cond.selects RX0 yX0_roomFor yX0_roomFor, Cond.code yX0_roomFor cX0_roomFor 4 (some .int), Cond.fieldLink RX0 37 "ChargePark" "fuseOf" "[I", Cond.fieldLink RX0 34 "ChargePark" "loadOf" "[I", Cond.methodLink RX0 132 Lib.Math.min.name, Cond.static Lib.Math.min.name, Cond.initialized "java/lang/Math", Cond.code Lib.Math.min.name Lib.Math.min.code 2 (some .int), Cond.methodLink RX0 159 yX0_isAt, Cond.instanceMethod yX0_isAt, Cond.selects RX0 yX0_isAt yX0_isAt, Cond.code yX0_isAt cX0_isAt 3 (some .boolean), Cond.fieldLink RX0 9 "ChargePark" "phaseOf" "[I", Cond.methodLink RX0 170 yX0_give]
def wsX0_shareFairly_r2 : List Cond := [Cond.instanceMethod yX0_give, Cond.selects RX0 yX0_give yX0_give, Cond.code yX0_give cX0_give 4 none]
def wsX0_shareFairly : List Cond := .code yX0_shareFairly cX0_shareFairly 3 none :: ((wsX0_shareFairly_r1 ++ wsX0_shareFairly_r2) ++ wsX00)
def wsX0_putIntoTurns_r1 : List Cond := [Cond.fieldLink RX0 31 "ChargePark" "turns" "[I", Cond.methodLink RX0 77 yX0_laxityAt, Cond.instanceMethod yX0_laxityAt, Cond.selects RX0 yX0_laxityAt yX0_laxityAt, Cond.initialized RX0, Cond.code yX0_laxityAt cX0_laxityAt 3 (some .int), Cond.fieldLink RX0 16 "ChargePark" "needOf" "[I", Cond.methodLink RX0 135 yX0_lesserOfGreatestAndAppetite, Cond.instanceMethod yX0_lesserOfGreatestAndAppetite, Cond.selects RX0 yX0_lesserOfGreatestAndAppetite yX0_lesserOfGreatestAndAppetite, Cond.code yX0_lesserOfGreatestAndAppetite cX0_lesserOfGreatestAndAppetite 2 (some .int), Cond.fieldLink RX0 13 "ChargePark" "greatestOf" "[I", Cond.fieldLink RX0 19 "ChargePark" "appetiteOf" "[I", Cond.methodLink RX0 132 Lib.Math.min.name, Cond.static Lib.Math.min.name, Cond.initialized "java/lang/Math", Cond.code Lib.Math.min.name Lib.Math.min.code 2 (some .int), Cond.methodLink RX0 138 yX0_unitsPerAmpere, Cond.instanceMethod yX0_unitsPerAmpere, Cond.selects RX0 yX0_unitsPerAmpere yX0_unitsPerAmpere, Cond.code yX0_unitsPerAmpere cX0_unitsPerAmpere 2 (some .int), Cond.fieldLink RX0 9 "ChargePark" "phaseOf" "[I", Cond.methodLink RX0 93 yX0_stepsLeftAt, Cond.instanceMethod yX0_stepsLeftAt]
def wsX0_putIntoTurns_r2 : List Cond := [Cond.selects RX0 yX0_stepsLeftAt yX0_stepsLeftAt, Cond.code yX0_stepsLeftAt cX0_stepsLeftAt 2 (some .int), Cond.fieldLink RX0 22 "ChargePark" "leavesAt" "[I", Cond.fieldLink RX0 74 "ChargePark" "now" "I", Cond.methodLink RX0 87 Lib.Math.max.name, Cond.static Lib.Math.max.name, Cond.code Lib.Math.max.name Lib.Math.max.code 2 (some .int), Cond.methodLink RX0 141 yX0_dividedRoundedUp, Cond.static yX0_dividedRoundedUp, Cond.code yX0_dividedRoundedUp cX0_dividedRoundedUp 2 (some .int)]
def wsX0_putIntoTurns : List Cond := .code yX0_putIntoTurns cX0_putIntoTurns 5 none :: ((wsX0_putIntoTurns_r1 ++ wsX0_putIntoTurns_r2) ++ wsX00)
def wsX0_shareByLaxity_r1 : List Cond := [Cond.fieldLink RX0 55 "ChargePark" "pointCount" "I", Cond.fieldLink RX0 25 "ChargePark" "wanted" "[I", Cond.fieldLink RX0 31 "ChargePark" "turns" "[I", Cond.methodLink RX0 132 Lib.Math.min.name, Cond.static Lib.Math.min.name, Cond.initialized "java/lang/Math", Cond.code Lib.Math.min.name Lib.Math.min.code 2 (some .int), Cond.methodLink RX0 163 yX0_putIntoTurns, Cond.instanceMethod yX0_putIntoTurns, Cond.selects RX0 yX0_putIntoTurns yX0_putIntoTurns, Cond.initialized RX0, Cond.code yX0_putIntoTurns cX0_putIntoTurns 5 none, Cond.methodLink RX0 77 yX0_laxityAt, Cond.instanceMethod yX0_laxityAt, Cond.selects RX0 yX0_laxityAt yX0_laxityAt, Cond.code yX0_laxityAt cX0_laxityAt 3 (some .int), Cond.fieldLink RX0 16 "ChargePark" "needOf" "[I", Cond.methodLink RX0 135 yX0_lesserOfGreatestAndAppetite, Cond.instanceMethod yX0_lesserOfGreatestAndAppetite, Cond.selects RX0 yX0_lesserOfGreatestAndAppetite yX0_lesserOfGreatestAndAppetite, Cond.code yX0_lesserOfGreatestAndAppetite cX0_lesserOfGreatestAndAppetite 2 (some .int), Cond.fieldLink RX0 13 "ChargePark" "greatestOf" "[I", Cond.fieldLink RX0 19 "ChargePark" "appetiteOf" "[I", Cond.methodLink RX0 138 yX0_unitsPerAmpere]
def wsX0_shareByLaxity_r2 : List Cond := [Cond.instanceMethod yX0_unitsPerAmpere, Cond.selects RX0 yX0_unitsPerAmpere yX0_unitsPerAmpere, Cond.code yX0_unitsPerAmpere cX0_unitsPerAmpere 2 (some .int), Cond.fieldLink RX0 9 "ChargePark" "phaseOf" "[I", Cond.methodLink RX0 93 yX0_stepsLeftAt, Cond.instanceMethod yX0_stepsLeftAt, Cond.selects RX0 yX0_stepsLeftAt yX0_stepsLeftAt, Cond.code yX0_stepsLeftAt cX0_stepsLeftAt 2 (some .int), Cond.fieldLink RX0 22 "ChargePark" "leavesAt" "[I", Cond.fieldLink RX0 74 "ChargePark" "now" "I", Cond.methodLink RX0 87 Lib.Math.max.name, Cond.static Lib.Math.max.name, Cond.code Lib.Math.max.name Lib.Math.max.code 2 (some .int), Cond.methodLink RX0 141 yX0_dividedRoundedUp, Cond.static yX0_dividedRoundedUp, Cond.code yX0_dividedRoundedUp cX0_dividedRoundedUp 2 (some .int), Cond.methodLink RX0 167 yX0_roomFor, Cond.instanceMethod yX0_roomFor, Cond.selects RX0 yX0_roomFor yX0_roomFor, Cond.code yX0_roomFor cX0_roomFor 4 (some .int), Cond.fieldLink RX0 37 "ChargePark" "fuseOf" "[I", Cond.fieldLink RX0 34 "ChargePark" "loadOf" "[I", Cond.methodLink RX0 159 yX0_isAt, Cond.instanceMethod yX0_isAt]
def wsX0_shareByLaxity_r3 : List Cond := [Cond.selects RX0 yX0_isAt yX0_isAt, Cond.code yX0_isAt cX0_isAt 3 (some .boolean), Cond.methodLink RX0 170 yX0_give, Cond.instanceMethod yX0_give, Cond.selects RX0 yX0_give yX0_give, Cond.code yX0_give cX0_give 4 none, Cond.fieldLink RX0 28 "ChargePark" "given" "[I"]
def wsX0_shareByLaxity : List Cond := .code yX0_shareByLaxity cX0_shareByLaxity 4 none :: ((wsX0_shareByLaxity_r1 ++ (wsX0_shareByLaxity_r2 ++ wsX0_shareByLaxity_r3)) ++ wsX00)
def wsX0_differenceOfLoads : List Cond := .code yX0_differenceOfLoads cX0_differenceOfLoads 3 (some .int) :: ([.fieldLink RX0 34 "ChargePark" "loadOf" "[I", .methodLink RX0 87 Lib.Math.max.name, .static Lib.Math.max.name, .initialized "java/lang/Math", .code Lib.Math.max.name Lib.Math.max.code 2 (some .int), .methodLink RX0 132 Lib.Math.min.name, .static Lib.Math.min.name, .code Lib.Math.min.name Lib.Math.min.code 2 (some .int)] ++ wsX00)
def wsX0_phaseOfGreatestLoad : List Cond := .code yX0_phaseOfGreatestLoad cX0_phaseOfGreatestLoad 3 (some .int) :: ([.fieldLink RX0 34 "ChargePark" "loadOf" "[I"] ++ wsX00)
def wsX0_mostGivenAloneAt : List Cond := .code yX0_mostGivenAloneAt cX0_mostGivenAloneAt 5 (some .int) :: ([.fieldLink RX0 55 "ChargePark" "pointCount" "I", .fieldLink RX0 9 "ChargePark" "phaseOf" "[I", .fieldLink RX0 28 "ChargePark" "given" "[I"] ++ wsX00)
def wsX0_keepBalance_r1 : List Cond := [Cond.fieldLink RX0 40 "ChargePark" "greatestDifference" "I", Cond.methodLink RX0 108 yX0_differenceOfLoads, Cond.instanceMethod yX0_differenceOfLoads, Cond.selects RX0 yX0_differenceOfLoads yX0_differenceOfLoads, Cond.initialized RX0, Cond.code yX0_differenceOfLoads cX0_differenceOfLoads 3 (some .int), Cond.fieldLink RX0 34 "ChargePark" "loadOf" "[I", Cond.methodLink RX0 87 Lib.Math.max.name, Cond.static Lib.Math.max.name, Cond.initialized "java/lang/Math", Cond.code Lib.Math.max.name Lib.Math.max.code 2 (some .int), Cond.methodLink RX0 132 Lib.Math.min.name, Cond.static Lib.Math.min.name, Cond.code Lib.Math.min.name Lib.Math.min.code 2 (some .int), Cond.methodLink RX0 177 yX0_phaseOfGreatestLoad, Cond.instanceMethod yX0_phaseOfGreatestLoad, Cond.selects RX0 yX0_phaseOfGreatestLoad yX0_phaseOfGreatestLoad, Cond.code yX0_phaseOfGreatestLoad cX0_phaseOfGreatestLoad 3 (some .int), Cond.methodLink RX0 180 yX0_mostGivenAloneAt, Cond.instanceMethod yX0_mostGivenAloneAt, Cond.selects RX0 yX0_mostGivenAloneAt yX0_mostGivenAloneAt, Cond.code yX0_mostGivenAloneAt cX0_mostGivenAloneAt 5 (some .int), Cond.fieldLink RX0 55 "ChargePark" "pointCount" "I", Cond.fieldLink RX0 9 "ChargePark" "phaseOf" "[I"]
def wsX0_keepBalance_r2 : List Cond := [Cond.fieldLink RX0 28 "ChargePark" "given" "[I", Cond.methodLink RX0 170 yX0_give, Cond.instanceMethod yX0_give, Cond.selects RX0 yX0_give yX0_give, Cond.code yX0_give cX0_give 4 none, Cond.methodLink RX0 159 yX0_isAt, Cond.instanceMethod yX0_isAt, Cond.selects RX0 yX0_isAt yX0_isAt, Cond.code yX0_isAt cX0_isAt 3 (some .boolean)]
def wsX0_keepBalance : List Cond := .code yX0_keepBalance cX0_keepBalance 3 none :: ((wsX0_keepBalance_r1 ++ wsX0_keepBalance_r2) ++ wsX00)
def wsX0_shareCurrents_r1 : List Cond := [Cond.fieldLink RX0 44 "ChargePark" "ruleInUse" "I", Cond.methodLink RX0 147 yX0_startShares, Cond.instanceMethod yX0_startShares, Cond.selects RX0 yX0_startShares yX0_startShares, Cond.initialized RX0, Cond.code yX0_startShares cX0_startShares 2 none, Cond.fieldLink RX0 55 "ChargePark" "pointCount" "I", Cond.fieldLink RX0 28 "ChargePark" "given" "[I", Cond.fieldLink RX0 25 "ChargePark" "wanted" "[I", Cond.fieldLink RX0 34 "ChargePark" "loadOf" "[I", Cond.methodLink RX0 105 yX0_reachAt, Cond.instanceMethod yX0_reachAt, Cond.selects RX0 yX0_reachAt yX0_reachAt, Cond.code yX0_reachAt cX0_reachAt 3 (some .int), Cond.fieldLink RX0 16 "ChargePark" "needOf" "[I", Cond.methodLink RX0 132 Lib.Math.min.name, Cond.static Lib.Math.min.name, Cond.initialized "java/lang/Math", Cond.code Lib.Math.min.name Lib.Math.min.code 2 (some .int), Cond.methodLink RX0 144 yX0_isToBeGiven, Cond.instanceMethod yX0_isToBeGiven, Cond.selects RX0 yX0_isToBeGiven yX0_isToBeGiven, Cond.code yX0_isToBeGiven cX0_isToBeGiven 2 (some .boolean), Cond.fieldLink RX0 22 "ChargePark" "leavesAt" "[I"]
def wsX0_shareCurrents_r2 : List Cond := [Cond.fieldLink RX0 74 "ChargePark" "now" "I", Cond.methodLink RX0 138 yX0_unitsPerAmpere, Cond.instanceMethod yX0_unitsPerAmpere, Cond.selects RX0 yX0_unitsPerAmpere yX0_unitsPerAmpere, Cond.code yX0_unitsPerAmpere cX0_unitsPerAmpere 2 (some .int), Cond.fieldLink RX0 9 "ChargePark" "phaseOf" "[I", Cond.methodLink RX0 141 yX0_dividedRoundedUp, Cond.static yX0_dividedRoundedUp, Cond.code yX0_dividedRoundedUp cX0_dividedRoundedUp 2 (some .int), Cond.methodLink RX0 135 yX0_lesserOfGreatestAndAppetite, Cond.instanceMethod yX0_lesserOfGreatestAndAppetite, Cond.selects RX0 yX0_lesserOfGreatestAndAppetite yX0_lesserOfGreatestAndAppetite, Cond.code yX0_lesserOfGreatestAndAppetite cX0_lesserOfGreatestAndAppetite 2 (some .int), Cond.fieldLink RX0 13 "ChargePark" "greatestOf" "[I", Cond.fieldLink RX0 19 "ChargePark" "appetiteOf" "[I", Cond.methodLink RX0 150 yX0_shareFairly, Cond.instanceMethod yX0_shareFairly, Cond.selects RX0 yX0_shareFairly yX0_shareFairly, Cond.code yX0_shareFairly cX0_shareFairly 3 none, Cond.methodLink RX0 173 yX0_raiseAll, Cond.instanceMethod yX0_raiseAll, Cond.selects RX0 yX0_raiseAll yX0_raiseAll, Cond.code yX0_raiseAll cX0_raiseAll 3 (some .boolean), Cond.methodLink RX0 167 yX0_roomFor]
def wsX0_shareCurrents_r3 : List Cond := [Cond.instanceMethod yX0_roomFor, Cond.selects RX0 yX0_roomFor yX0_roomFor, Cond.code yX0_roomFor cX0_roomFor 4 (some .int), Cond.fieldLink RX0 37 "ChargePark" "fuseOf" "[I", Cond.methodLink RX0 159 yX0_isAt, Cond.instanceMethod yX0_isAt, Cond.selects RX0 yX0_isAt yX0_isAt, Cond.code yX0_isAt cX0_isAt 3 (some .boolean), Cond.methodLink RX0 170 yX0_give, Cond.instanceMethod yX0_give, Cond.selects RX0 yX0_give yX0_give, Cond.code yX0_give cX0_give 4 none, Cond.methodLink RX0 153 yX0_shareByLaxity, Cond.instanceMethod yX0_shareByLaxity, Cond.selects RX0 yX0_shareByLaxity yX0_shareByLaxity, Cond.code yX0_shareByLaxity cX0_shareByLaxity 4 none, Cond.fieldLink RX0 31 "ChargePark" "turns" "[I", Cond.methodLink RX0 163 yX0_putIntoTurns, Cond.instanceMethod yX0_putIntoTurns, Cond.selects RX0 yX0_putIntoTurns yX0_putIntoTurns, Cond.code yX0_putIntoTurns cX0_putIntoTurns 5 none, Cond.methodLink RX0 77 yX0_laxityAt, Cond.instanceMethod yX0_laxityAt, Cond.selects RX0 yX0_laxityAt yX0_laxityAt]
def wsX0_shareCurrents_r4 : List Cond := [Cond.code yX0_laxityAt cX0_laxityAt 3 (some .int), Cond.methodLink RX0 93 yX0_stepsLeftAt, Cond.instanceMethod yX0_stepsLeftAt, Cond.selects RX0 yX0_stepsLeftAt yX0_stepsLeftAt, Cond.code yX0_stepsLeftAt cX0_stepsLeftAt 2 (some .int), Cond.methodLink RX0 87 Lib.Math.max.name, Cond.static Lib.Math.max.name, Cond.code Lib.Math.max.name Lib.Math.max.code 2 (some .int), Cond.methodLink RX0 156 yX0_keepBalance, Cond.instanceMethod yX0_keepBalance, Cond.selects RX0 yX0_keepBalance yX0_keepBalance, Cond.code yX0_keepBalance cX0_keepBalance 3 none, Cond.fieldLink RX0 40 "ChargePark" "greatestDifference" "I", Cond.methodLink RX0 108 yX0_differenceOfLoads, Cond.instanceMethod yX0_differenceOfLoads, Cond.selects RX0 yX0_differenceOfLoads yX0_differenceOfLoads, Cond.code yX0_differenceOfLoads cX0_differenceOfLoads 3 (some .int), Cond.methodLink RX0 177 yX0_phaseOfGreatestLoad, Cond.instanceMethod yX0_phaseOfGreatestLoad, Cond.selects RX0 yX0_phaseOfGreatestLoad yX0_phaseOfGreatestLoad, Cond.code yX0_phaseOfGreatestLoad cX0_phaseOfGreatestLoad 3 (some .int), Cond.methodLink RX0 180 yX0_mostGivenAloneAt, Cond.instanceMethod yX0_mostGivenAloneAt, Cond.selects RX0 yX0_mostGivenAloneAt yX0_mostGivenAloneAt]
def wsX0_shareCurrents_r5 : List Cond := [Cond.code yX0_mostGivenAloneAt cX0_mostGivenAloneAt 5 (some .int)]
def wsX0_shareCurrents : List Cond := .code yX0_shareCurrents cX0_shareCurrents 1 none :: ((wsX0_shareCurrents_r1 ++ (wsX0_shareCurrents_r2 ++ (wsX0_shareCurrents_r3 ++ (wsX0_shareCurrents_r4 ++ wsX0_shareCurrents_r5)))) ++ wsX00)
def wsX0_takeWhatIsGiven : List Cond := .code yX0_takeWhatIsGiven cX0_takeWhatIsGiven 3 none :: ([.fieldLink RX0 55 "ChargePark" "pointCount" "I", .fieldLink RX0 28 "ChargePark" "given" "[I", .fieldLink RX0 16 "ChargePark" "needOf" "[I", .methodLink RX0 132 Lib.Math.min.name, .static Lib.Math.min.name, .initialized "java/lang/Math", .code Lib.Math.min.name Lib.Math.min.code 2 (some .int), .fieldLink RX0 96 "ChargePark" "takenUnits" "I", .methodLink RX0 138 yX0_unitsPerAmpere, .instanceMethod yX0_unitsPerAmpere, .selects RX0 yX0_unitsPerAmpere yX0_unitsPerAmpere, .initialized RX0, .code yX0_unitsPerAmpere cX0_unitsPerAmpere 2 (some .int), .fieldLink RX0 9 "ChargePark" "phaseOf" "[I"] ++ wsX00)
def wsX0_step_r1 : List Cond := [Cond.fieldLink RX0 96 "ChargePark" "takenUnits" "I", Cond.fieldLink RX0 74 "ChargePark" "now" "I", Cond.methodLink RX0 51 yX0_requireWithin, Cond.static yX0_requireWithin, Cond.initialized RX0, Cond.code yX0_requireWithin cX0_requireWithin 3 none, Cond.classLink RX0 118 "java/lang/IllegalArgumentException", Cond.initialized "java/lang/IllegalArgumentException", Cond.methodLink RX0 99 yX0_shareCurrents, Cond.instanceMethod yX0_shareCurrents, Cond.selects RX0 yX0_shareCurrents yX0_shareCurrents, Cond.code yX0_shareCurrents cX0_shareCurrents 1 none, Cond.fieldLink RX0 44 "ChargePark" "ruleInUse" "I", Cond.methodLink RX0 147 yX0_startShares, Cond.instanceMethod yX0_startShares, Cond.selects RX0 yX0_startShares yX0_startShares, Cond.code yX0_startShares cX0_startShares 2 none, Cond.fieldLink RX0 55 "ChargePark" "pointCount" "I", Cond.fieldLink RX0 28 "ChargePark" "given" "[I", Cond.fieldLink RX0 25 "ChargePark" "wanted" "[I", Cond.fieldLink RX0 34 "ChargePark" "loadOf" "[I", Cond.methodLink RX0 105 yX0_reachAt, Cond.instanceMethod yX0_reachAt, Cond.selects RX0 yX0_reachAt yX0_reachAt]
def wsX0_step_r2 : List Cond := [Cond.code yX0_reachAt cX0_reachAt 3 (some .int), Cond.fieldLink RX0 16 "ChargePark" "needOf" "[I", Cond.methodLink RX0 132 Lib.Math.min.name, Cond.static Lib.Math.min.name, Cond.initialized "java/lang/Math", Cond.code Lib.Math.min.name Lib.Math.min.code 2 (some .int), Cond.methodLink RX0 144 yX0_isToBeGiven, Cond.instanceMethod yX0_isToBeGiven, Cond.selects RX0 yX0_isToBeGiven yX0_isToBeGiven, Cond.code yX0_isToBeGiven cX0_isToBeGiven 2 (some .boolean), Cond.fieldLink RX0 22 "ChargePark" "leavesAt" "[I", Cond.methodLink RX0 138 yX0_unitsPerAmpere, Cond.instanceMethod yX0_unitsPerAmpere, Cond.selects RX0 yX0_unitsPerAmpere yX0_unitsPerAmpere, Cond.code yX0_unitsPerAmpere cX0_unitsPerAmpere 2 (some .int), Cond.fieldLink RX0 9 "ChargePark" "phaseOf" "[I", Cond.methodLink RX0 141 yX0_dividedRoundedUp, Cond.static yX0_dividedRoundedUp, Cond.code yX0_dividedRoundedUp cX0_dividedRoundedUp 2 (some .int), Cond.methodLink RX0 135 yX0_lesserOfGreatestAndAppetite, Cond.instanceMethod yX0_lesserOfGreatestAndAppetite, Cond.selects RX0 yX0_lesserOfGreatestAndAppetite yX0_lesserOfGreatestAndAppetite, Cond.code yX0_lesserOfGreatestAndAppetite cX0_lesserOfGreatestAndAppetite 2 (some .int), Cond.fieldLink RX0 13 "ChargePark" "greatestOf" "[I"]
def wsX0_step_r3 : List Cond := [Cond.fieldLink RX0 19 "ChargePark" "appetiteOf" "[I", Cond.methodLink RX0 150 yX0_shareFairly, Cond.instanceMethod yX0_shareFairly, Cond.selects RX0 yX0_shareFairly yX0_shareFairly, Cond.code yX0_shareFairly cX0_shareFairly 3 none, Cond.methodLink RX0 173 yX0_raiseAll, Cond.instanceMethod yX0_raiseAll, Cond.selects RX0 yX0_raiseAll yX0_raiseAll, Cond.code yX0_raiseAll cX0_raiseAll 3 (some .boolean), Cond.methodLink RX0 167 yX0_roomFor, Cond.instanceMethod yX0_roomFor, Cond.selects RX0 yX0_roomFor yX0_roomFor, Cond.code yX0_roomFor cX0_roomFor 4 (some .int), Cond.fieldLink RX0 37 "ChargePark" "fuseOf" "[I", Cond.methodLink RX0 159 yX0_isAt, Cond.instanceMethod yX0_isAt, Cond.selects RX0 yX0_isAt yX0_isAt, Cond.code yX0_isAt cX0_isAt 3 (some .boolean), Cond.methodLink RX0 170 yX0_give, Cond.instanceMethod yX0_give, Cond.selects RX0 yX0_give yX0_give, Cond.code yX0_give cX0_give 4 none, Cond.methodLink RX0 153 yX0_shareByLaxity, Cond.instanceMethod yX0_shareByLaxity]
def wsX0_step_r4 : List Cond := [Cond.selects RX0 yX0_shareByLaxity yX0_shareByLaxity, Cond.code yX0_shareByLaxity cX0_shareByLaxity 4 none, Cond.fieldLink RX0 31 "ChargePark" "turns" "[I", Cond.methodLink RX0 163 yX0_putIntoTurns, Cond.instanceMethod yX0_putIntoTurns, Cond.selects RX0 yX0_putIntoTurns yX0_putIntoTurns, Cond.code yX0_putIntoTurns cX0_putIntoTurns 5 none, Cond.methodLink RX0 77 yX0_laxityAt, Cond.instanceMethod yX0_laxityAt, Cond.selects RX0 yX0_laxityAt yX0_laxityAt, Cond.code yX0_laxityAt cX0_laxityAt 3 (some .int), Cond.methodLink RX0 93 yX0_stepsLeftAt, Cond.instanceMethod yX0_stepsLeftAt, Cond.selects RX0 yX0_stepsLeftAt yX0_stepsLeftAt, Cond.code yX0_stepsLeftAt cX0_stepsLeftAt 2 (some .int), Cond.methodLink RX0 87 Lib.Math.max.name, Cond.static Lib.Math.max.name, Cond.code Lib.Math.max.name Lib.Math.max.code 2 (some .int), Cond.methodLink RX0 156 yX0_keepBalance, Cond.instanceMethod yX0_keepBalance, Cond.selects RX0 yX0_keepBalance yX0_keepBalance, Cond.code yX0_keepBalance cX0_keepBalance 3 none, Cond.fieldLink RX0 40 "ChargePark" "greatestDifference" "I", Cond.methodLink RX0 108 yX0_differenceOfLoads]
def wsX0_step_r5 : List Cond := [Cond.instanceMethod yX0_differenceOfLoads, Cond.selects RX0 yX0_differenceOfLoads yX0_differenceOfLoads, Cond.code yX0_differenceOfLoads cX0_differenceOfLoads 3 (some .int), Cond.methodLink RX0 177 yX0_phaseOfGreatestLoad, Cond.instanceMethod yX0_phaseOfGreatestLoad, Cond.selects RX0 yX0_phaseOfGreatestLoad yX0_phaseOfGreatestLoad, Cond.code yX0_phaseOfGreatestLoad cX0_phaseOfGreatestLoad 3 (some .int), Cond.methodLink RX0 180 yX0_mostGivenAloneAt, Cond.instanceMethod yX0_mostGivenAloneAt, Cond.selects RX0 yX0_mostGivenAloneAt yX0_mostGivenAloneAt, Cond.code yX0_mostGivenAloneAt cX0_mostGivenAloneAt 5 (some .int), Cond.methodLink RX0 102 yX0_takeWhatIsGiven, Cond.instanceMethod yX0_takeWhatIsGiven, Cond.selects RX0 yX0_takeWhatIsGiven yX0_takeWhatIsGiven, Cond.code yX0_takeWhatIsGiven cX0_takeWhatIsGiven 3 none]
def wsX0_step : List Cond := .code yX0_step cX0_step 4 (some .int) :: ((wsX0_step_r1 ++ (wsX0_step_r2 ++ (wsX0_step_r3 ++ (wsX0_step_r4 ++ wsX0_step_r5)))) ++ wsX00 ++ (vx_atS RX0 122 "java/lang/IllegalArgumentException" ["java/lang/RuntimeException", "java/lang/Exception"]).filter goodWord)
def wsX0_time : List Cond := .code yX0_time cX0_time 1 (some .int) :: ([.fieldLink RX0 74 "ChargePark" "now" "I"] ++ wsX00)
def wsX0_points : List Cond := .code yX0_points cX0_points 1 (some .int) :: ([.fieldLink RX0 55 "ChargePark" "pointCount" "I"] ++ wsX00)
def wsX0_taken : List Cond := .code yX0_taken cX0_taken 1 (some .int) :: ([.fieldLink RX0 96 "ChargePark" "takenUnits" "I"] ++ wsX00)
def wsX0_served : List Cond := .code yX0_served cX0_served 1 (some .int) :: ([.fieldLink RX0 84 "ChargePark" "servedCars" "I"] ++ wsX00)
def wsX0_need : List Cond := .code yX0_need cX0_need 2 (some .int) :: ([.fieldLink RX0 16 "ChargePark" "needOf" "[I", .methodLink RX0 65 yX0_requirePoint, .instanceMethod yX0_requirePoint, .selects RX0 yX0_requirePoint yX0_requirePoint, .initialized RX0, .code yX0_requirePoint cX0_requirePoint 2 none, .classLink RX0 125 "java/lang/IndexOutOfBoundsException", .initialized "java/lang/IndexOutOfBoundsException", .fieldLink RX0 55 "ChargePark" "pointCount" "I"] ++ wsX00 ++ (vx_atS RX0 129 "java/lang/IndexOutOfBoundsException" ["java/lang/RuntimeException", "java/lang/Exception"]).filter goodWord)
def wsX0_left : List Cond := .code yX0_left cX0_left 2 (some .int) :: ([.methodLink RX0 65 yX0_requirePoint, .instanceMethod yX0_requirePoint, .selects RX0 yX0_requirePoint yX0_requirePoint, .initialized RX0, .code yX0_requirePoint cX0_requirePoint 2 none, .classLink RX0 125 "java/lang/IndexOutOfBoundsException", .initialized "java/lang/IndexOutOfBoundsException", .fieldLink RX0 55 "ChargePark" "pointCount" "I", .methodLink RX0 68 yX0_hasCar, .instanceMethod yX0_hasCar, .selects RX0 yX0_hasCar yX0_hasCar, .code yX0_hasCar cX0_hasCar 2 (some .boolean), .fieldLink RX0 16 "ChargePark" "needOf" "[I", .methodLink RX0 93 yX0_stepsLeftAt, .instanceMethod yX0_stepsLeftAt, .selects RX0 yX0_stepsLeftAt yX0_stepsLeftAt, .code yX0_stepsLeftAt cX0_stepsLeftAt 2 (some .int), .fieldLink RX0 22 "ChargePark" "leavesAt" "[I", .fieldLink RX0 74 "ChargePark" "now" "I", .methodLink RX0 87 Lib.Math.max.name, .static Lib.Math.max.name, .initialized "java/lang/Math", .code Lib.Math.max.name Lib.Math.max.code 2 (some .int)] ++ wsX00 ++ (vx_atS RX0 129 "java/lang/IndexOutOfBoundsException" ["java/lang/RuntimeException", "java/lang/Exception"]).filter goodWord)
def wsX0_laxity_r1 : List Cond := [Cond.methodLink RX0 65 yX0_requirePoint, Cond.instanceMethod yX0_requirePoint, Cond.selects RX0 yX0_requirePoint yX0_requirePoint, Cond.initialized RX0, Cond.code yX0_requirePoint cX0_requirePoint 2 none, Cond.classLink RX0 125 "java/lang/IndexOutOfBoundsException", Cond.initialized "java/lang/IndexOutOfBoundsException", Cond.fieldLink RX0 55 "ChargePark" "pointCount" "I", Cond.methodLink RX0 81 yX0_requireCar, Cond.instanceMethod yX0_requireCar, Cond.selects RX0 yX0_requireCar yX0_requireCar, Cond.code yX0_requireCar cX0_requireCar 2 none, Cond.classLink RX0 58 "java/lang/IllegalStateException", Cond.initialized "java/lang/IllegalStateException", Cond.methodLink RX0 68 yX0_hasCar, Cond.instanceMethod yX0_hasCar, Cond.selects RX0 yX0_hasCar yX0_hasCar, Cond.code yX0_hasCar cX0_hasCar 2 (some .boolean), Cond.fieldLink RX0 16 "ChargePark" "needOf" "[I", Cond.methodLink RX0 77 yX0_laxityAt, Cond.instanceMethod yX0_laxityAt, Cond.selects RX0 yX0_laxityAt yX0_laxityAt, Cond.code yX0_laxityAt cX0_laxityAt 3 (some .int), Cond.methodLink RX0 135 yX0_lesserOfGreatestAndAppetite]
def wsX0_laxity_r2 : List Cond := [Cond.instanceMethod yX0_lesserOfGreatestAndAppetite, Cond.selects RX0 yX0_lesserOfGreatestAndAppetite yX0_lesserOfGreatestAndAppetite, Cond.code yX0_lesserOfGreatestAndAppetite cX0_lesserOfGreatestAndAppetite 2 (some .int), Cond.fieldLink RX0 13 "ChargePark" "greatestOf" "[I", Cond.fieldLink RX0 19 "ChargePark" "appetiteOf" "[I", Cond.methodLink RX0 132 Lib.Math.min.name, Cond.static Lib.Math.min.name, Cond.initialized "java/lang/Math", Cond.code Lib.Math.min.name Lib.Math.min.code 2 (some .int), Cond.methodLink RX0 138 yX0_unitsPerAmpere, Cond.instanceMethod yX0_unitsPerAmpere, Cond.selects RX0 yX0_unitsPerAmpere yX0_unitsPerAmpere, Cond.code yX0_unitsPerAmpere cX0_unitsPerAmpere 2 (some .int), Cond.fieldLink RX0 9 "ChargePark" "phaseOf" "[I", Cond.methodLink RX0 93 yX0_stepsLeftAt, Cond.instanceMethod yX0_stepsLeftAt, Cond.selects RX0 yX0_stepsLeftAt yX0_stepsLeftAt, Cond.code yX0_stepsLeftAt cX0_stepsLeftAt 2 (some .int), Cond.fieldLink RX0 22 "ChargePark" "leavesAt" "[I", Cond.fieldLink RX0 74 "ChargePark" "now" "I", Cond.methodLink RX0 87 Lib.Math.max.name, Cond.static Lib.Math.max.name, Cond.code Lib.Math.max.name Lib.Math.max.code 2 (some .int), Cond.methodLink RX0 141 yX0_dividedRoundedUp]
def wsX0_laxity_r3 : List Cond := [Cond.static yX0_dividedRoundedUp, Cond.code yX0_dividedRoundedUp cX0_dividedRoundedUp 2 (some .int)]
def wsX0_laxity : List Cond := .code yX0_laxity cX0_laxity 2 (some .int) :: ((wsX0_laxity_r1 ++ (wsX0_laxity_r2 ++ wsX0_laxity_r3)) ++ wsX00 ++ (vx_atS RX0 129 "java/lang/IndexOutOfBoundsException" ["java/lang/RuntimeException", "java/lang/Exception"]).filter goodWord ++ (vx_atS RX0 62 "java/lang/IllegalStateException" ["java/lang/RuntimeException", "java/lang/Exception"]).filter goodWord)
def wsX0_reach_r1 : List Cond := [Cond.methodLink RX0 65 yX0_requirePoint, Cond.instanceMethod yX0_requirePoint, Cond.selects RX0 yX0_requirePoint yX0_requirePoint, Cond.initialized RX0, Cond.code yX0_requirePoint cX0_requirePoint 2 none, Cond.classLink RX0 125 "java/lang/IndexOutOfBoundsException", Cond.initialized "java/lang/IndexOutOfBoundsException", Cond.fieldLink RX0 55 "ChargePark" "pointCount" "I", Cond.methodLink RX0 105 yX0_reachAt, Cond.instanceMethod yX0_reachAt, Cond.selects RX0 yX0_reachAt yX0_reachAt, Cond.code yX0_reachAt cX0_reachAt 3 (some .int), Cond.fieldLink RX0 16 "ChargePark" "needOf" "[I", Cond.methodLink RX0 132 Lib.Math.min.name, Cond.static Lib.Math.min.name, Cond.initialized "java/lang/Math", Cond.code Lib.Math.min.name Lib.Math.min.code 2 (some .int), Cond.methodLink RX0 144 yX0_isToBeGiven, Cond.instanceMethod yX0_isToBeGiven, Cond.selects RX0 yX0_isToBeGiven yX0_isToBeGiven, Cond.code yX0_isToBeGiven cX0_isToBeGiven 2 (some .boolean), Cond.fieldLink RX0 22 "ChargePark" "leavesAt" "[I", Cond.fieldLink RX0 74 "ChargePark" "now" "I", Cond.methodLink RX0 138 yX0_unitsPerAmpere]
def wsX0_reach_r2 : List Cond := [Cond.instanceMethod yX0_unitsPerAmpere, Cond.selects RX0 yX0_unitsPerAmpere yX0_unitsPerAmpere, Cond.code yX0_unitsPerAmpere cX0_unitsPerAmpere 2 (some .int), Cond.fieldLink RX0 9 "ChargePark" "phaseOf" "[I", Cond.methodLink RX0 141 yX0_dividedRoundedUp, Cond.static yX0_dividedRoundedUp, Cond.code yX0_dividedRoundedUp cX0_dividedRoundedUp 2 (some .int), Cond.methodLink RX0 135 yX0_lesserOfGreatestAndAppetite, Cond.instanceMethod yX0_lesserOfGreatestAndAppetite, Cond.selects RX0 yX0_lesserOfGreatestAndAppetite yX0_lesserOfGreatestAndAppetite, Cond.code yX0_lesserOfGreatestAndAppetite cX0_lesserOfGreatestAndAppetite 2 (some .int), Cond.fieldLink RX0 13 "ChargePark" "greatestOf" "[I", Cond.fieldLink RX0 19 "ChargePark" "appetiteOf" "[I"]
def wsX0_reach : List Cond := .code yX0_reach cX0_reach 2 (some .int) :: ((wsX0_reach_r1 ++ wsX0_reach_r2) ++ wsX00 ++ (vx_atS RX0 129 "java/lang/IndexOutOfBoundsException" ["java/lang/RuntimeException", "java/lang/Exception"]).filter goodWord)
def wsX0_current_r1 : List Cond := [Cond.fieldLink RX0 28 "ChargePark" "given" "[I", Cond.methodLink RX0 65 yX0_requirePoint, Cond.instanceMethod yX0_requirePoint, Cond.selects RX0 yX0_requirePoint yX0_requirePoint, Cond.initialized RX0, Cond.code yX0_requirePoint cX0_requirePoint 2 none, Cond.classLink RX0 125 "java/lang/IndexOutOfBoundsException", Cond.initialized "java/lang/IndexOutOfBoundsException", Cond.fieldLink RX0 55 "ChargePark" "pointCount" "I", Cond.methodLink RX0 99 yX0_shareCurrents, Cond.instanceMethod yX0_shareCurrents, Cond.selects RX0 yX0_shareCurrents yX0_shareCurrents, Cond.code yX0_shareCurrents cX0_shareCurrents 1 none, Cond.fieldLink RX0 44 "ChargePark" "ruleInUse" "I", Cond.methodLink RX0 147 yX0_startShares, Cond.instanceMethod yX0_startShares, Cond.selects RX0 yX0_startShares yX0_startShares, Cond.code yX0_startShares cX0_startShares 2 none, Cond.fieldLink RX0 25 "ChargePark" "wanted" "[I", Cond.fieldLink RX0 34 "ChargePark" "loadOf" "[I", Cond.methodLink RX0 105 yX0_reachAt, Cond.instanceMethod yX0_reachAt, Cond.selects RX0 yX0_reachAt yX0_reachAt, Cond.code yX0_reachAt cX0_reachAt 3 (some .int)]
def wsX0_current_r2 : List Cond := [Cond.fieldLink RX0 16 "ChargePark" "needOf" "[I", Cond.methodLink RX0 132 Lib.Math.min.name, Cond.static Lib.Math.min.name, Cond.initialized "java/lang/Math", Cond.code Lib.Math.min.name Lib.Math.min.code 2 (some .int), Cond.methodLink RX0 144 yX0_isToBeGiven, Cond.instanceMethod yX0_isToBeGiven, Cond.selects RX0 yX0_isToBeGiven yX0_isToBeGiven, Cond.code yX0_isToBeGiven cX0_isToBeGiven 2 (some .boolean), Cond.fieldLink RX0 22 "ChargePark" "leavesAt" "[I", Cond.fieldLink RX0 74 "ChargePark" "now" "I", Cond.methodLink RX0 138 yX0_unitsPerAmpere, Cond.instanceMethod yX0_unitsPerAmpere, Cond.selects RX0 yX0_unitsPerAmpere yX0_unitsPerAmpere, Cond.code yX0_unitsPerAmpere cX0_unitsPerAmpere 2 (some .int), Cond.fieldLink RX0 9 "ChargePark" "phaseOf" "[I", Cond.methodLink RX0 141 yX0_dividedRoundedUp, Cond.static yX0_dividedRoundedUp, Cond.code yX0_dividedRoundedUp cX0_dividedRoundedUp 2 (some .int), Cond.methodLink RX0 135 yX0_lesserOfGreatestAndAppetite, Cond.instanceMethod yX0_lesserOfGreatestAndAppetite, Cond.selects RX0 yX0_lesserOfGreatestAndAppetite yX0_lesserOfGreatestAndAppetite, Cond.code yX0_lesserOfGreatestAndAppetite cX0_lesserOfGreatestAndAppetite 2 (some .int), Cond.fieldLink RX0 13 "ChargePark" "greatestOf" "[I"]
def wsX0_current_r3 : List Cond := [Cond.fieldLink RX0 19 "ChargePark" "appetiteOf" "[I", Cond.methodLink RX0 150 yX0_shareFairly, Cond.instanceMethod yX0_shareFairly, Cond.selects RX0 yX0_shareFairly yX0_shareFairly, Cond.code yX0_shareFairly cX0_shareFairly 3 none, Cond.methodLink RX0 173 yX0_raiseAll, Cond.instanceMethod yX0_raiseAll, Cond.selects RX0 yX0_raiseAll yX0_raiseAll, Cond.code yX0_raiseAll cX0_raiseAll 3 (some .boolean), Cond.methodLink RX0 167 yX0_roomFor, Cond.instanceMethod yX0_roomFor, Cond.selects RX0 yX0_roomFor yX0_roomFor, Cond.code yX0_roomFor cX0_roomFor 4 (some .int), Cond.fieldLink RX0 37 "ChargePark" "fuseOf" "[I", Cond.methodLink RX0 159 yX0_isAt, Cond.instanceMethod yX0_isAt, Cond.selects RX0 yX0_isAt yX0_isAt, Cond.code yX0_isAt cX0_isAt 3 (some .boolean), Cond.methodLink RX0 170 yX0_give, Cond.instanceMethod yX0_give, Cond.selects RX0 yX0_give yX0_give, Cond.code yX0_give cX0_give 4 none, Cond.methodLink RX0 153 yX0_shareByLaxity, Cond.instanceMethod yX0_shareByLaxity]
def wsX0_current_r4 : List Cond := [Cond.selects RX0 yX0_shareByLaxity yX0_shareByLaxity, Cond.code yX0_shareByLaxity cX0_shareByLaxity 4 none, Cond.fieldLink RX0 31 "ChargePark" "turns" "[I", Cond.methodLink RX0 163 yX0_putIntoTurns, Cond.instanceMethod yX0_putIntoTurns, Cond.selects RX0 yX0_putIntoTurns yX0_putIntoTurns, Cond.code yX0_putIntoTurns cX0_putIntoTurns 5 none, Cond.methodLink RX0 77 yX0_laxityAt, Cond.instanceMethod yX0_laxityAt, Cond.selects RX0 yX0_laxityAt yX0_laxityAt, Cond.code yX0_laxityAt cX0_laxityAt 3 (some .int), Cond.methodLink RX0 93 yX0_stepsLeftAt, Cond.instanceMethod yX0_stepsLeftAt, Cond.selects RX0 yX0_stepsLeftAt yX0_stepsLeftAt, Cond.code yX0_stepsLeftAt cX0_stepsLeftAt 2 (some .int), Cond.methodLink RX0 87 Lib.Math.max.name, Cond.static Lib.Math.max.name, Cond.code Lib.Math.max.name Lib.Math.max.code 2 (some .int), Cond.methodLink RX0 156 yX0_keepBalance, Cond.instanceMethod yX0_keepBalance, Cond.selects RX0 yX0_keepBalance yX0_keepBalance, Cond.code yX0_keepBalance cX0_keepBalance 3 none, Cond.fieldLink RX0 40 "ChargePark" "greatestDifference" "I", Cond.methodLink RX0 108 yX0_differenceOfLoads]
def wsX0_current_r5 : List Cond := [Cond.instanceMethod yX0_differenceOfLoads, Cond.selects RX0 yX0_differenceOfLoads yX0_differenceOfLoads, Cond.code yX0_differenceOfLoads cX0_differenceOfLoads 3 (some .int), Cond.methodLink RX0 177 yX0_phaseOfGreatestLoad, Cond.instanceMethod yX0_phaseOfGreatestLoad, Cond.selects RX0 yX0_phaseOfGreatestLoad yX0_phaseOfGreatestLoad, Cond.code yX0_phaseOfGreatestLoad cX0_phaseOfGreatestLoad 3 (some .int), Cond.methodLink RX0 180 yX0_mostGivenAloneAt, Cond.instanceMethod yX0_mostGivenAloneAt, Cond.selects RX0 yX0_mostGivenAloneAt yX0_mostGivenAloneAt, Cond.code yX0_mostGivenAloneAt cX0_mostGivenAloneAt 5 (some .int)]
def wsX0_current : List Cond := .code yX0_current cX0_current 2 (some .int) :: ((wsX0_current_r1 ++ (wsX0_current_r2 ++ (wsX0_current_r3 ++ (wsX0_current_r4 ++ wsX0_current_r5)))) ++ wsX00 ++ (vx_atS RX0 129 "java/lang/IndexOutOfBoundsException" ["java/lang/RuntimeException", "java/lang/Exception"]).filter goodWord)
def wsX0_load_r1 : List Cond := [Cond.fieldLink RX0 34 "ChargePark" "loadOf" "[I", Cond.methodLink RX0 47 yX0_requirePhase, Cond.static yX0_requirePhase, Cond.initialized RX0, Cond.code yX0_requirePhase cX0_requirePhase 1 none, Cond.classLink RX0 118 "java/lang/IllegalArgumentException", Cond.initialized "java/lang/IllegalArgumentException", Cond.methodLink RX0 99 yX0_shareCurrents, Cond.instanceMethod yX0_shareCurrents, Cond.selects RX0 yX0_shareCurrents yX0_shareCurrents, Cond.code yX0_shareCurrents cX0_shareCurrents 1 none, Cond.fieldLink RX0 44 "ChargePark" "ruleInUse" "I", Cond.methodLink RX0 147 yX0_startShares, Cond.instanceMethod yX0_startShares, Cond.selects RX0 yX0_startShares yX0_startShares, Cond.code yX0_startShares cX0_startShares 2 none, Cond.fieldLink RX0 55 "ChargePark" "pointCount" "I", Cond.fieldLink RX0 28 "ChargePark" "given" "[I", Cond.fieldLink RX0 25 "ChargePark" "wanted" "[I", Cond.methodLink RX0 105 yX0_reachAt, Cond.instanceMethod yX0_reachAt, Cond.selects RX0 yX0_reachAt yX0_reachAt, Cond.code yX0_reachAt cX0_reachAt 3 (some .int), Cond.fieldLink RX0 16 "ChargePark" "needOf" "[I"]
def wsX0_load_r2 : List Cond := [Cond.methodLink RX0 132 Lib.Math.min.name, Cond.static Lib.Math.min.name, Cond.initialized "java/lang/Math", Cond.code Lib.Math.min.name Lib.Math.min.code 2 (some .int), Cond.methodLink RX0 144 yX0_isToBeGiven, Cond.instanceMethod yX0_isToBeGiven, Cond.selects RX0 yX0_isToBeGiven yX0_isToBeGiven, Cond.code yX0_isToBeGiven cX0_isToBeGiven 2 (some .boolean), Cond.fieldLink RX0 22 "ChargePark" "leavesAt" "[I", Cond.fieldLink RX0 74 "ChargePark" "now" "I", Cond.methodLink RX0 138 yX0_unitsPerAmpere, Cond.instanceMethod yX0_unitsPerAmpere, Cond.selects RX0 yX0_unitsPerAmpere yX0_unitsPerAmpere, Cond.code yX0_unitsPerAmpere cX0_unitsPerAmpere 2 (some .int), Cond.fieldLink RX0 9 "ChargePark" "phaseOf" "[I", Cond.methodLink RX0 141 yX0_dividedRoundedUp, Cond.static yX0_dividedRoundedUp, Cond.code yX0_dividedRoundedUp cX0_dividedRoundedUp 2 (some .int), Cond.methodLink RX0 135 yX0_lesserOfGreatestAndAppetite, Cond.instanceMethod yX0_lesserOfGreatestAndAppetite, Cond.selects RX0 yX0_lesserOfGreatestAndAppetite yX0_lesserOfGreatestAndAppetite, Cond.code yX0_lesserOfGreatestAndAppetite cX0_lesserOfGreatestAndAppetite 2 (some .int), Cond.fieldLink RX0 13 "ChargePark" "greatestOf" "[I", Cond.fieldLink RX0 19 "ChargePark" "appetiteOf" "[I"]
def wsX0_load_r3 : List Cond := [Cond.methodLink RX0 150 yX0_shareFairly, Cond.instanceMethod yX0_shareFairly, Cond.selects RX0 yX0_shareFairly yX0_shareFairly, Cond.code yX0_shareFairly cX0_shareFairly 3 none, Cond.methodLink RX0 173 yX0_raiseAll, Cond.instanceMethod yX0_raiseAll, Cond.selects RX0 yX0_raiseAll yX0_raiseAll, Cond.code yX0_raiseAll cX0_raiseAll 3 (some .boolean), Cond.methodLink RX0 167 yX0_roomFor, Cond.instanceMethod yX0_roomFor, Cond.selects RX0 yX0_roomFor yX0_roomFor, Cond.code yX0_roomFor cX0_roomFor 4 (some .int), Cond.fieldLink RX0 37 "ChargePark" "fuseOf" "[I", Cond.methodLink RX0 159 yX0_isAt, Cond.instanceMethod yX0_isAt, Cond.selects RX0 yX0_isAt yX0_isAt, Cond.code yX0_isAt cX0_isAt 3 (some .boolean), Cond.methodLink RX0 170 yX0_give, Cond.instanceMethod yX0_give, Cond.selects RX0 yX0_give yX0_give, Cond.code yX0_give cX0_give 4 none, Cond.methodLink RX0 153 yX0_shareByLaxity, Cond.instanceMethod yX0_shareByLaxity, Cond.selects RX0 yX0_shareByLaxity yX0_shareByLaxity]
def wsX0_load_r4 : List Cond := [Cond.code yX0_shareByLaxity cX0_shareByLaxity 4 none, Cond.fieldLink RX0 31 "ChargePark" "turns" "[I", Cond.methodLink RX0 163 yX0_putIntoTurns, Cond.instanceMethod yX0_putIntoTurns, Cond.selects RX0 yX0_putIntoTurns yX0_putIntoTurns, Cond.code yX0_putIntoTurns cX0_putIntoTurns 5 none, Cond.methodLink RX0 77 yX0_laxityAt, Cond.instanceMethod yX0_laxityAt, Cond.selects RX0 yX0_laxityAt yX0_laxityAt, Cond.code yX0_laxityAt cX0_laxityAt 3 (some .int), Cond.methodLink RX0 93 yX0_stepsLeftAt, Cond.instanceMethod yX0_stepsLeftAt, Cond.selects RX0 yX0_stepsLeftAt yX0_stepsLeftAt, Cond.code yX0_stepsLeftAt cX0_stepsLeftAt 2 (some .int), Cond.methodLink RX0 87 Lib.Math.max.name, Cond.static Lib.Math.max.name, Cond.code Lib.Math.max.name Lib.Math.max.code 2 (some .int), Cond.methodLink RX0 156 yX0_keepBalance, Cond.instanceMethod yX0_keepBalance, Cond.selects RX0 yX0_keepBalance yX0_keepBalance, Cond.code yX0_keepBalance cX0_keepBalance 3 none, Cond.fieldLink RX0 40 "ChargePark" "greatestDifference" "I", Cond.methodLink RX0 108 yX0_differenceOfLoads, Cond.instanceMethod yX0_differenceOfLoads]
def wsX0_load_r5 : List Cond := [Cond.selects RX0 yX0_differenceOfLoads yX0_differenceOfLoads, Cond.code yX0_differenceOfLoads cX0_differenceOfLoads 3 (some .int), Cond.methodLink RX0 177 yX0_phaseOfGreatestLoad, Cond.instanceMethod yX0_phaseOfGreatestLoad, Cond.selects RX0 yX0_phaseOfGreatestLoad yX0_phaseOfGreatestLoad, Cond.code yX0_phaseOfGreatestLoad cX0_phaseOfGreatestLoad 3 (some .int), Cond.methodLink RX0 180 yX0_mostGivenAloneAt, Cond.instanceMethod yX0_mostGivenAloneAt, Cond.selects RX0 yX0_mostGivenAloneAt yX0_mostGivenAloneAt, Cond.code yX0_mostGivenAloneAt cX0_mostGivenAloneAt 5 (some .int)]
def wsX0_load : List Cond := .code yX0_load cX0_load 2 (some .int) :: ((wsX0_load_r1 ++ (wsX0_load_r2 ++ (wsX0_load_r3 ++ (wsX0_load_r4 ++ wsX0_load_r5)))) ++ wsX00 ++ (vx_atS RX0 122 "java/lang/IllegalArgumentException" ["java/lang/RuntimeException", "java/lang/Exception"]).filter goodWord)
def wsX0_imbalance_r1 : List Cond := [Cond.methodLink RX0 99 yX0_shareCurrents, Cond.instanceMethod yX0_shareCurrents, Cond.selects RX0 yX0_shareCurrents yX0_shareCurrents, Cond.initialized RX0, Cond.code yX0_shareCurrents cX0_shareCurrents 1 none, Cond.fieldLink RX0 44 "ChargePark" "ruleInUse" "I", Cond.methodLink RX0 147 yX0_startShares, Cond.instanceMethod yX0_startShares, Cond.selects RX0 yX0_startShares yX0_startShares, Cond.code yX0_startShares cX0_startShares 2 none, Cond.fieldLink RX0 55 "ChargePark" "pointCount" "I", Cond.fieldLink RX0 28 "ChargePark" "given" "[I", Cond.fieldLink RX0 25 "ChargePark" "wanted" "[I", Cond.fieldLink RX0 34 "ChargePark" "loadOf" "[I", Cond.methodLink RX0 105 yX0_reachAt, Cond.instanceMethod yX0_reachAt, Cond.selects RX0 yX0_reachAt yX0_reachAt, Cond.code yX0_reachAt cX0_reachAt 3 (some .int), Cond.fieldLink RX0 16 "ChargePark" "needOf" "[I", Cond.methodLink RX0 132 Lib.Math.min.name, Cond.static Lib.Math.min.name, Cond.initialized "java/lang/Math", Cond.code Lib.Math.min.name Lib.Math.min.code 2 (some .int), Cond.methodLink RX0 144 yX0_isToBeGiven]
def wsX0_imbalance_r2 : List Cond := [Cond.instanceMethod yX0_isToBeGiven, Cond.selects RX0 yX0_isToBeGiven yX0_isToBeGiven, Cond.code yX0_isToBeGiven cX0_isToBeGiven 2 (some .boolean), Cond.fieldLink RX0 22 "ChargePark" "leavesAt" "[I", Cond.fieldLink RX0 74 "ChargePark" "now" "I", Cond.methodLink RX0 138 yX0_unitsPerAmpere, Cond.instanceMethod yX0_unitsPerAmpere, Cond.selects RX0 yX0_unitsPerAmpere yX0_unitsPerAmpere, Cond.code yX0_unitsPerAmpere cX0_unitsPerAmpere 2 (some .int), Cond.fieldLink RX0 9 "ChargePark" "phaseOf" "[I", Cond.methodLink RX0 141 yX0_dividedRoundedUp, Cond.static yX0_dividedRoundedUp, Cond.code yX0_dividedRoundedUp cX0_dividedRoundedUp 2 (some .int), Cond.methodLink RX0 135 yX0_lesserOfGreatestAndAppetite, Cond.instanceMethod yX0_lesserOfGreatestAndAppetite, Cond.selects RX0 yX0_lesserOfGreatestAndAppetite yX0_lesserOfGreatestAndAppetite, Cond.code yX0_lesserOfGreatestAndAppetite cX0_lesserOfGreatestAndAppetite 2 (some .int), Cond.fieldLink RX0 13 "ChargePark" "greatestOf" "[I", Cond.fieldLink RX0 19 "ChargePark" "appetiteOf" "[I", Cond.methodLink RX0 150 yX0_shareFairly, Cond.instanceMethod yX0_shareFairly, Cond.selects RX0 yX0_shareFairly yX0_shareFairly, Cond.code yX0_shareFairly cX0_shareFairly 3 none, Cond.methodLink RX0 173 yX0_raiseAll]
def wsX0_imbalance_r3 : List Cond := [Cond.instanceMethod yX0_raiseAll, Cond.selects RX0 yX0_raiseAll yX0_raiseAll, Cond.code yX0_raiseAll cX0_raiseAll 3 (some .boolean), Cond.methodLink RX0 167 yX0_roomFor, Cond.instanceMethod yX0_roomFor, Cond.selects RX0 yX0_roomFor yX0_roomFor, Cond.code yX0_roomFor cX0_roomFor 4 (some .int), Cond.fieldLink RX0 37 "ChargePark" "fuseOf" "[I", Cond.methodLink RX0 159 yX0_isAt, Cond.instanceMethod yX0_isAt, Cond.selects RX0 yX0_isAt yX0_isAt, Cond.code yX0_isAt cX0_isAt 3 (some .boolean), Cond.methodLink RX0 170 yX0_give, Cond.instanceMethod yX0_give, Cond.selects RX0 yX0_give yX0_give, Cond.code yX0_give cX0_give 4 none, Cond.methodLink RX0 153 yX0_shareByLaxity, Cond.instanceMethod yX0_shareByLaxity, Cond.selects RX0 yX0_shareByLaxity yX0_shareByLaxity, Cond.code yX0_shareByLaxity cX0_shareByLaxity 4 none, Cond.fieldLink RX0 31 "ChargePark" "turns" "[I", Cond.methodLink RX0 163 yX0_putIntoTurns, Cond.instanceMethod yX0_putIntoTurns, Cond.selects RX0 yX0_putIntoTurns yX0_putIntoTurns]
def wsX0_imbalance_r4 : List Cond := [Cond.code yX0_putIntoTurns cX0_putIntoTurns 5 none, Cond.methodLink RX0 77 yX0_laxityAt, Cond.instanceMethod yX0_laxityAt, Cond.selects RX0 yX0_laxityAt yX0_laxityAt, Cond.code yX0_laxityAt cX0_laxityAt 3 (some .int), Cond.methodLink RX0 93 yX0_stepsLeftAt, Cond.instanceMethod yX0_stepsLeftAt, Cond.selects RX0 yX0_stepsLeftAt yX0_stepsLeftAt, Cond.code yX0_stepsLeftAt cX0_stepsLeftAt 2 (some .int), Cond.methodLink RX0 87 Lib.Math.max.name, Cond.static Lib.Math.max.name, Cond.code Lib.Math.max.name Lib.Math.max.code 2 (some .int), Cond.methodLink RX0 156 yX0_keepBalance, Cond.instanceMethod yX0_keepBalance, Cond.selects RX0 yX0_keepBalance yX0_keepBalance, Cond.code yX0_keepBalance cX0_keepBalance 3 none, Cond.fieldLink RX0 40 "ChargePark" "greatestDifference" "I", Cond.methodLink RX0 108 yX0_differenceOfLoads, Cond.instanceMethod yX0_differenceOfLoads, Cond.selects RX0 yX0_differenceOfLoads yX0_differenceOfLoads, Cond.code yX0_differenceOfLoads cX0_differenceOfLoads 3 (some .int), Cond.methodLink RX0 177 yX0_phaseOfGreatestLoad, Cond.instanceMethod yX0_phaseOfGreatestLoad, Cond.selects RX0 yX0_phaseOfGreatestLoad yX0_phaseOfGreatestLoad]
def wsX0_imbalance_r5 : List Cond := [Cond.code yX0_phaseOfGreatestLoad cX0_phaseOfGreatestLoad 3 (some .int), Cond.methodLink RX0 180 yX0_mostGivenAloneAt, Cond.instanceMethod yX0_mostGivenAloneAt, Cond.selects RX0 yX0_mostGivenAloneAt yX0_mostGivenAloneAt, Cond.code yX0_mostGivenAloneAt cX0_mostGivenAloneAt 5 (some .int)]
def wsX0_imbalance : List Cond := .code yX0_imbalance cX0_imbalance 1 (some .int) :: ((wsX0_imbalance_r1 ++ (wsX0_imbalance_r2 ++ (wsX0_imbalance_r3 ++ (wsX0_imbalance_r4 ++ wsX0_imbalance_r5)))) ++ wsX00)
def wsX0_held_r1 : List Cond := [Cond.fieldLink RX0 55 "ChargePark" "pointCount" "I", Cond.fieldLink RX0 28 "ChargePark" "given" "[I", Cond.fieldLink RX0 25 "ChargePark" "wanted" "[I", Cond.methodLink RX0 99 yX0_shareCurrents, Cond.instanceMethod yX0_shareCurrents, Cond.selects RX0 yX0_shareCurrents yX0_shareCurrents, Cond.initialized RX0, Cond.code yX0_shareCurrents cX0_shareCurrents 1 none, Cond.fieldLink RX0 44 "ChargePark" "ruleInUse" "I", Cond.methodLink RX0 147 yX0_startShares, Cond.instanceMethod yX0_startShares, Cond.selects RX0 yX0_startShares yX0_startShares, Cond.code yX0_startShares cX0_startShares 2 none, Cond.fieldLink RX0 34 "ChargePark" "loadOf" "[I", Cond.methodLink RX0 105 yX0_reachAt, Cond.instanceMethod yX0_reachAt, Cond.selects RX0 yX0_reachAt yX0_reachAt, Cond.code yX0_reachAt cX0_reachAt 3 (some .int), Cond.fieldLink RX0 16 "ChargePark" "needOf" "[I", Cond.methodLink RX0 132 Lib.Math.min.name, Cond.static Lib.Math.min.name, Cond.initialized "java/lang/Math", Cond.code Lib.Math.min.name Lib.Math.min.code 2 (some .int), Cond.methodLink RX0 144 yX0_isToBeGiven]
def wsX0_held_r2 : List Cond := [Cond.instanceMethod yX0_isToBeGiven, Cond.selects RX0 yX0_isToBeGiven yX0_isToBeGiven, Cond.code yX0_isToBeGiven cX0_isToBeGiven 2 (some .boolean), Cond.fieldLink RX0 22 "ChargePark" "leavesAt" "[I", Cond.fieldLink RX0 74 "ChargePark" "now" "I", Cond.methodLink RX0 138 yX0_unitsPerAmpere, Cond.instanceMethod yX0_unitsPerAmpere, Cond.selects RX0 yX0_unitsPerAmpere yX0_unitsPerAmpere, Cond.code yX0_unitsPerAmpere cX0_unitsPerAmpere 2 (some .int), Cond.fieldLink RX0 9 "ChargePark" "phaseOf" "[I", Cond.methodLink RX0 141 yX0_dividedRoundedUp, Cond.static yX0_dividedRoundedUp, Cond.code yX0_dividedRoundedUp cX0_dividedRoundedUp 2 (some .int), Cond.methodLink RX0 135 yX0_lesserOfGreatestAndAppetite, Cond.instanceMethod yX0_lesserOfGreatestAndAppetite, Cond.selects RX0 yX0_lesserOfGreatestAndAppetite yX0_lesserOfGreatestAndAppetite, Cond.code yX0_lesserOfGreatestAndAppetite cX0_lesserOfGreatestAndAppetite 2 (some .int), Cond.fieldLink RX0 13 "ChargePark" "greatestOf" "[I", Cond.fieldLink RX0 19 "ChargePark" "appetiteOf" "[I", Cond.methodLink RX0 150 yX0_shareFairly, Cond.instanceMethod yX0_shareFairly, Cond.selects RX0 yX0_shareFairly yX0_shareFairly, Cond.code yX0_shareFairly cX0_shareFairly 3 none, Cond.methodLink RX0 173 yX0_raiseAll]
def wsX0_held_r3 : List Cond := [Cond.instanceMethod yX0_raiseAll, Cond.selects RX0 yX0_raiseAll yX0_raiseAll, Cond.code yX0_raiseAll cX0_raiseAll 3 (some .boolean), Cond.methodLink RX0 167 yX0_roomFor, Cond.instanceMethod yX0_roomFor, Cond.selects RX0 yX0_roomFor yX0_roomFor, Cond.code yX0_roomFor cX0_roomFor 4 (some .int), Cond.fieldLink RX0 37 "ChargePark" "fuseOf" "[I", Cond.methodLink RX0 159 yX0_isAt, Cond.instanceMethod yX0_isAt, Cond.selects RX0 yX0_isAt yX0_isAt, Cond.code yX0_isAt cX0_isAt 3 (some .boolean), Cond.methodLink RX0 170 yX0_give, Cond.instanceMethod yX0_give, Cond.selects RX0 yX0_give yX0_give, Cond.code yX0_give cX0_give 4 none, Cond.methodLink RX0 153 yX0_shareByLaxity, Cond.instanceMethod yX0_shareByLaxity, Cond.selects RX0 yX0_shareByLaxity yX0_shareByLaxity, Cond.code yX0_shareByLaxity cX0_shareByLaxity 4 none, Cond.fieldLink RX0 31 "ChargePark" "turns" "[I", Cond.methodLink RX0 163 yX0_putIntoTurns, Cond.instanceMethod yX0_putIntoTurns, Cond.selects RX0 yX0_putIntoTurns yX0_putIntoTurns]
def wsX0_held_r4 : List Cond := [Cond.code yX0_putIntoTurns cX0_putIntoTurns 5 none, Cond.methodLink RX0 77 yX0_laxityAt, Cond.instanceMethod yX0_laxityAt, Cond.selects RX0 yX0_laxityAt yX0_laxityAt, Cond.code yX0_laxityAt cX0_laxityAt 3 (some .int), Cond.methodLink RX0 93 yX0_stepsLeftAt, Cond.instanceMethod yX0_stepsLeftAt, Cond.selects RX0 yX0_stepsLeftAt yX0_stepsLeftAt, Cond.code yX0_stepsLeftAt cX0_stepsLeftAt 2 (some .int), Cond.methodLink RX0 87 Lib.Math.max.name, Cond.static Lib.Math.max.name, Cond.code Lib.Math.max.name Lib.Math.max.code 2 (some .int), Cond.methodLink RX0 156 yX0_keepBalance, Cond.instanceMethod yX0_keepBalance, Cond.selects RX0 yX0_keepBalance yX0_keepBalance, Cond.code yX0_keepBalance cX0_keepBalance 3 none, Cond.fieldLink RX0 40 "ChargePark" "greatestDifference" "I", Cond.methodLink RX0 108 yX0_differenceOfLoads, Cond.instanceMethod yX0_differenceOfLoads, Cond.selects RX0 yX0_differenceOfLoads yX0_differenceOfLoads, Cond.code yX0_differenceOfLoads cX0_differenceOfLoads 3 (some .int), Cond.methodLink RX0 177 yX0_phaseOfGreatestLoad, Cond.instanceMethod yX0_phaseOfGreatestLoad, Cond.selects RX0 yX0_phaseOfGreatestLoad yX0_phaseOfGreatestLoad]
def wsX0_held_r5 : List Cond := [Cond.code yX0_phaseOfGreatestLoad cX0_phaseOfGreatestLoad 3 (some .int), Cond.methodLink RX0 180 yX0_mostGivenAloneAt, Cond.instanceMethod yX0_mostGivenAloneAt, Cond.selects RX0 yX0_mostGivenAloneAt yX0_mostGivenAloneAt, Cond.code yX0_mostGivenAloneAt cX0_mostGivenAloneAt 5 (some .int)]
def wsX0_held : List Cond := .code yX0_held cX0_held 3 (some .int) :: ((wsX0_held_r1 ++ (wsX0_held_r2 ++ (wsX0_held_r3 ++ (wsX0_held_r4 ++ wsX0_held_r5)))) ++ wsX00)
def wsX0_givenAtAllPhases : List Cond := .code yX0_givenAtAllPhases cX0_givenAtAllPhases 3 (some .int) :: ([.fieldLink RX0 55 "ChargePark" "pointCount" "I", .fieldLink RX0 9 "ChargePark" "phaseOf" "[I", .fieldLink RX0 28 "ChargePark" "given" "[I"] ++ wsX00)
def wsX0_usedAtLevel : List Cond := .code yX0_usedAtLevel cX0_usedAtLevel 5 (some .int) :: ([.fieldLink RX0 55 "ChargePark" "pointCount" "I", .fieldLink RX0 9 "ChargePark" "phaseOf" "[I", .fieldLink RX0 25 "ChargePark" "wanted" "[I", .methodLink RX0 132 Lib.Math.min.name, .static Lib.Math.min.name, .initialized "java/lang/Math", .code Lib.Math.min.name Lib.Math.min.code 2 (some .int)] ++ wsX00)
def wsX0_fairLevel_r1 : List Cond := [Cond.fieldLink RX0 37 "ChargePark" "fuseOf" "[I", Cond.methodLink RX0 47 yX0_requirePhase, Cond.static yX0_requirePhase, Cond.initialized RX0, Cond.code yX0_requirePhase cX0_requirePhase 1 none, Cond.classLink RX0 118 "java/lang/IllegalArgumentException", Cond.initialized "java/lang/IllegalArgumentException", Cond.methodLink RX0 99 yX0_shareCurrents, Cond.instanceMethod yX0_shareCurrents, Cond.selects RX0 yX0_shareCurrents yX0_shareCurrents, Cond.code yX0_shareCurrents cX0_shareCurrents 1 none, Cond.fieldLink RX0 44 "ChargePark" "ruleInUse" "I", Cond.methodLink RX0 147 yX0_startShares, Cond.instanceMethod yX0_startShares, Cond.selects RX0 yX0_startShares yX0_startShares, Cond.code yX0_startShares cX0_startShares 2 none, Cond.fieldLink RX0 55 "ChargePark" "pointCount" "I", Cond.fieldLink RX0 28 "ChargePark" "given" "[I", Cond.fieldLink RX0 25 "ChargePark" "wanted" "[I", Cond.fieldLink RX0 34 "ChargePark" "loadOf" "[I", Cond.methodLink RX0 105 yX0_reachAt, Cond.instanceMethod yX0_reachAt, Cond.selects RX0 yX0_reachAt yX0_reachAt, Cond.code yX0_reachAt cX0_reachAt 3 (some .int)]
def wsX0_fairLevel_r2 : List Cond := [Cond.fieldLink RX0 16 "ChargePark" "needOf" "[I", Cond.methodLink RX0 132 Lib.Math.min.name, Cond.static Lib.Math.min.name, Cond.initialized "java/lang/Math", Cond.code Lib.Math.min.name Lib.Math.min.code 2 (some .int), Cond.methodLink RX0 144 yX0_isToBeGiven, Cond.instanceMethod yX0_isToBeGiven, Cond.selects RX0 yX0_isToBeGiven yX0_isToBeGiven, Cond.code yX0_isToBeGiven cX0_isToBeGiven 2 (some .boolean), Cond.fieldLink RX0 22 "ChargePark" "leavesAt" "[I", Cond.fieldLink RX0 74 "ChargePark" "now" "I", Cond.methodLink RX0 138 yX0_unitsPerAmpere, Cond.instanceMethod yX0_unitsPerAmpere, Cond.selects RX0 yX0_unitsPerAmpere yX0_unitsPerAmpere, Cond.code yX0_unitsPerAmpere cX0_unitsPerAmpere 2 (some .int), Cond.fieldLink RX0 9 "ChargePark" "phaseOf" "[I", Cond.methodLink RX0 141 yX0_dividedRoundedUp, Cond.static yX0_dividedRoundedUp, Cond.code yX0_dividedRoundedUp cX0_dividedRoundedUp 2 (some .int), Cond.methodLink RX0 135 yX0_lesserOfGreatestAndAppetite, Cond.instanceMethod yX0_lesserOfGreatestAndAppetite, Cond.selects RX0 yX0_lesserOfGreatestAndAppetite yX0_lesserOfGreatestAndAppetite, Cond.code yX0_lesserOfGreatestAndAppetite cX0_lesserOfGreatestAndAppetite 2 (some .int), Cond.fieldLink RX0 13 "ChargePark" "greatestOf" "[I"]
def wsX0_fairLevel_r3 : List Cond := [Cond.fieldLink RX0 19 "ChargePark" "appetiteOf" "[I", Cond.methodLink RX0 150 yX0_shareFairly, Cond.instanceMethod yX0_shareFairly, Cond.selects RX0 yX0_shareFairly yX0_shareFairly, Cond.code yX0_shareFairly cX0_shareFairly 3 none, Cond.methodLink RX0 173 yX0_raiseAll, Cond.instanceMethod yX0_raiseAll, Cond.selects RX0 yX0_raiseAll yX0_raiseAll, Cond.code yX0_raiseAll cX0_raiseAll 3 (some .boolean), Cond.methodLink RX0 167 yX0_roomFor, Cond.instanceMethod yX0_roomFor, Cond.selects RX0 yX0_roomFor yX0_roomFor, Cond.code yX0_roomFor cX0_roomFor 4 (some .int), Cond.methodLink RX0 159 yX0_isAt, Cond.instanceMethod yX0_isAt, Cond.selects RX0 yX0_isAt yX0_isAt, Cond.code yX0_isAt cX0_isAt 3 (some .boolean), Cond.methodLink RX0 170 yX0_give, Cond.instanceMethod yX0_give, Cond.selects RX0 yX0_give yX0_give, Cond.code yX0_give cX0_give 4 none, Cond.methodLink RX0 153 yX0_shareByLaxity, Cond.instanceMethod yX0_shareByLaxity, Cond.selects RX0 yX0_shareByLaxity yX0_shareByLaxity]
def wsX0_fairLevel_r4 : List Cond := [Cond.code yX0_shareByLaxity cX0_shareByLaxity 4 none, Cond.fieldLink RX0 31 "ChargePark" "turns" "[I", Cond.methodLink RX0 163 yX0_putIntoTurns, Cond.instanceMethod yX0_putIntoTurns, Cond.selects RX0 yX0_putIntoTurns yX0_putIntoTurns, Cond.code yX0_putIntoTurns cX0_putIntoTurns 5 none, Cond.methodLink RX0 77 yX0_laxityAt, Cond.instanceMethod yX0_laxityAt, Cond.selects RX0 yX0_laxityAt yX0_laxityAt, Cond.code yX0_laxityAt cX0_laxityAt 3 (some .int), Cond.methodLink RX0 93 yX0_stepsLeftAt, Cond.instanceMethod yX0_stepsLeftAt, Cond.selects RX0 yX0_stepsLeftAt yX0_stepsLeftAt, Cond.code yX0_stepsLeftAt cX0_stepsLeftAt 2 (some .int), Cond.methodLink RX0 87 Lib.Math.max.name, Cond.static Lib.Math.max.name, Cond.code Lib.Math.max.name Lib.Math.max.code 2 (some .int), Cond.methodLink RX0 156 yX0_keepBalance, Cond.instanceMethod yX0_keepBalance, Cond.selects RX0 yX0_keepBalance yX0_keepBalance, Cond.code yX0_keepBalance cX0_keepBalance 3 none, Cond.fieldLink RX0 40 "ChargePark" "greatestDifference" "I", Cond.methodLink RX0 108 yX0_differenceOfLoads, Cond.instanceMethod yX0_differenceOfLoads]
def wsX0_fairLevel_r5 : List Cond := [Cond.selects RX0 yX0_differenceOfLoads yX0_differenceOfLoads, Cond.code yX0_differenceOfLoads cX0_differenceOfLoads 3 (some .int), Cond.methodLink RX0 177 yX0_phaseOfGreatestLoad, Cond.instanceMethod yX0_phaseOfGreatestLoad, Cond.selects RX0 yX0_phaseOfGreatestLoad yX0_phaseOfGreatestLoad, Cond.code yX0_phaseOfGreatestLoad cX0_phaseOfGreatestLoad 3 (some .int), Cond.methodLink RX0 180 yX0_mostGivenAloneAt, Cond.instanceMethod yX0_mostGivenAloneAt, Cond.selects RX0 yX0_mostGivenAloneAt yX0_mostGivenAloneAt, Cond.code yX0_mostGivenAloneAt cX0_mostGivenAloneAt 5 (some .int), Cond.methodLink RX0 112 yX0_givenAtAllPhases, Cond.instanceMethod yX0_givenAtAllPhases, Cond.selects RX0 yX0_givenAtAllPhases yX0_givenAtAllPhases, Cond.code yX0_givenAtAllPhases cX0_givenAtAllPhases 3 (some .int), Cond.methodLink RX0 115 yX0_usedAtLevel, Cond.instanceMethod yX0_usedAtLevel, Cond.selects RX0 yX0_usedAtLevel yX0_usedAtLevel, Cond.code yX0_usedAtLevel cX0_usedAtLevel 5 (some .int)]
def wsX0_fairLevel : List Cond := .code yX0_fairLevel cX0_fairLevel 6 (some .int) :: ((wsX0_fairLevel_r1 ++ (wsX0_fairLevel_r2 ++ (wsX0_fairLevel_r3 ++ (wsX0_fairLevel_r4 ++ wsX0_fairLevel_r5)))) ++ wsX00 ++ (vx_atS RX0 122 "java/lang/IllegalArgumentException" ["java/lang/RuntimeException", "java/lang/Exception"]).filter goodWord)
def wsX0_canBeReady_r1 : List Cond := [Cond.fieldLink RX0 55 "ChargePark" "pointCount" "I", Cond.fieldLink RX0 16 "ChargePark" "needOf" "[I", Cond.methodLink RX0 77 yX0_laxityAt, Cond.instanceMethod yX0_laxityAt, Cond.selects RX0 yX0_laxityAt yX0_laxityAt, Cond.initialized RX0, Cond.code yX0_laxityAt cX0_laxityAt 3 (some .int), Cond.methodLink RX0 135 yX0_lesserOfGreatestAndAppetite, Cond.instanceMethod yX0_lesserOfGreatestAndAppetite, Cond.selects RX0 yX0_lesserOfGreatestAndAppetite yX0_lesserOfGreatestAndAppetite, Cond.code yX0_lesserOfGreatestAndAppetite cX0_lesserOfGreatestAndAppetite 2 (some .int), Cond.fieldLink RX0 13 "ChargePark" "greatestOf" "[I", Cond.fieldLink RX0 19 "ChargePark" "appetiteOf" "[I", Cond.methodLink RX0 132 Lib.Math.min.name, Cond.static Lib.Math.min.name, Cond.initialized "java/lang/Math", Cond.code Lib.Math.min.name Lib.Math.min.code 2 (some .int), Cond.methodLink RX0 138 yX0_unitsPerAmpere, Cond.instanceMethod yX0_unitsPerAmpere, Cond.selects RX0 yX0_unitsPerAmpere yX0_unitsPerAmpere, Cond.code yX0_unitsPerAmpere cX0_unitsPerAmpere 2 (some .int), Cond.fieldLink RX0 9 "ChargePark" "phaseOf" "[I", Cond.methodLink RX0 93 yX0_stepsLeftAt, Cond.instanceMethod yX0_stepsLeftAt]
def wsX0_canBeReady_r2 : List Cond := [Cond.selects RX0 yX0_stepsLeftAt yX0_stepsLeftAt, Cond.code yX0_stepsLeftAt cX0_stepsLeftAt 2 (some .int), Cond.fieldLink RX0 22 "ChargePark" "leavesAt" "[I", Cond.fieldLink RX0 74 "ChargePark" "now" "I", Cond.methodLink RX0 87 Lib.Math.max.name, Cond.static Lib.Math.max.name, Cond.code Lib.Math.max.name Lib.Math.max.code 2 (some .int), Cond.methodLink RX0 141 yX0_dividedRoundedUp, Cond.static yX0_dividedRoundedUp, Cond.code yX0_dividedRoundedUp cX0_dividedRoundedUp 2 (some .int)]
def wsX0_canBeReady : List Cond := .code yX0_canBeReady cX0_canBeReady 2 (some .boolean) :: ((wsX0_canBeReady_r1 ++ wsX0_canBeReady_r2) ++ wsX00)
def wsX1_init : List Cond := .code yX1_init cX1_init 2 none :: ([.methodLink RX1 1 objectInit, .instanceMethod objectInit, .code objectInit ⟨#[0xb1]⟩ 1 none, .arrayClass .int, .fieldLink RX1 7 "ChargeParkModel" "phase" "[I", .fieldLink RX1 13 "ChargeParkModel" "greatest" "[I", .arrayClass .boolean, .fieldLink RX1 16 "ChargeParkModel" "car" "[Z", .fieldLink RX1 20 "ChargeParkModel" "need" "[I", .fieldLink RX1 23 "ChargeParkModel" "appetite" "[I", .fieldLink RX1 26 "ChargeParkModel" "leaves" "[I", .fieldLink RX1 29 "ChargeParkModel" "fuse" "[I", .fieldLink RX1 32 "ChargeParkModel" "balance" "I", .fieldLink RX1 36 "ChargeParkModel" "given" "[I", .fieldLink RX1 39 "ChargeParkModel" "passed" "[Z"] ++ wsX10)
def wsX1_thrown : List Cond := .code yX1_thrown cX1_thrown 1 (some .int) :: ([.fieldLink RX1 42 "ChargeParkModel" "thrown" "I"] ++ wsX10)
def wsX1_isIn : List Cond := .code yX1_isIn cX1_isIn 3 (some .boolean) :: ([])
def wsX1_point : List Cond := .code yX1_point cX1_point 3 (some .int) :: ([.fieldLink RX1 49 "ChargeParkModel" "points" "I", .fieldLink RX1 42 "ChargeParkModel" "thrown" "I", .fieldLink RX1 7 "ChargeParkModel" "phase" "[I", .fieldLink RX1 13 "ChargeParkModel" "greatest" "[I", .methodLink RX1 45 yX1_isIn, .static yX1_isIn, .initialized RX1, .code yX1_isIn cX1_isIn 3 (some .boolean)] ++ wsX10)
def wsX1_fuse : List Cond := .code yX1_fuse cX1_fuse 4 (some .int) :: ([.fieldLink RX1 42 "ChargeParkModel" "thrown" "I", .fieldLink RX1 29 "ChargeParkModel" "fuse" "[I", .methodLink RX1 45 yX1_isIn, .static yX1_isIn, .initialized RX1, .code yX1_isIn cX1_isIn 3 (some .boolean)] ++ wsX10)
def wsX1_balance : List Cond := .code yX1_balance cX1_balance 3 (some .int) :: ([.fieldLink RX1 42 "ChargeParkModel" "thrown" "I", .fieldLink RX1 32 "ChargeParkModel" "balance" "I", .methodLink RX1 45 yX1_isIn, .static yX1_isIn, .initialized RX1, .code yX1_isIn cX1_isIn 3 (some .boolean)] ++ wsX10)
def wsX1_rule : List Cond := .code yX1_rule cX1_rule 3 (some .int) :: ([.fieldLink RX1 42 "ChargeParkModel" "thrown" "I", .fieldLink RX1 52 "ChargeParkModel" "rule" "I", .methodLink RX1 45 yX1_isIn, .static yX1_isIn, .initialized RX1, .code yX1_isIn cX1_isIn 3 (some .boolean)] ++ wsX10)
def wsX1_stepsLeft : List Cond := .code yX1_stepsLeft cX1_stepsLeft 2 (some .int) :: ([.fieldLink RX1 26 "ChargeParkModel" "leaves" "[I", .fieldLink RX1 55 "ChargeParkModel" "time" "I"] ++ wsX10)
def wsX1_times : List Cond := .code yX1_times cX1_times 2 (some .int) :: ([.fieldLink RX1 7 "ChargeParkModel" "phase" "[I"] ++ wsX10)
def wsX1_up : List Cond := .code yX1_up cX1_up 2 (some .int) :: ([])
def wsX1_most : List Cond := .code yX1_most cX1_most 2 (some .int) :: ([.fieldLink RX1 13 "ChargeParkModel" "greatest" "[I", .fieldLink RX1 23 "ChargeParkModel" "appetite" "[I"] ++ wsX10)
def wsX1_lax : List Cond := .code yX1_lax cX1_lax 2 (some .int) :: ([.fieldLink RX1 20 "ChargeParkModel" "need" "[I", .methodLink RX1 58 yX1_stepsLeft, .instanceMethod yX1_stepsLeft, .selects RX1 yX1_stepsLeft yX1_stepsLeft, .initialized RX1, .code yX1_stepsLeft cX1_stepsLeft 2 (some .int), .fieldLink RX1 26 "ChargeParkModel" "leaves" "[I", .fieldLink RX1 55 "ChargeParkModel" "time" "I", .methodLink RX1 62 yX1_most, .instanceMethod yX1_most, .selects RX1 yX1_most yX1_most, .code yX1_most cX1_most 2 (some .int), .fieldLink RX1 13 "ChargeParkModel" "greatest" "[I", .fieldLink RX1 23 "ChargeParkModel" "appetite" "[I", .methodLink RX1 65 yX1_times, .instanceMethod yX1_times, .selects RX1 yX1_times yX1_times, .code yX1_times cX1_times 2 (some .int), .fieldLink RX1 7 "ChargeParkModel" "phase" "[I", .methodLink RX1 68 yX1_up, .static yX1_up, .code yX1_up cX1_up 2 (some .int)] ++ wsX10)
def wsX1_reaches : List Cond := .code yX1_reaches cX1_reaches 4 (some .int) :: ([.fieldLink RX1 20 "ChargeParkModel" "need" "[I", .fieldLink RX1 16 "ChargeParkModel" "car" "[Z", .methodLink RX1 65 yX1_times, .instanceMethod yX1_times, .selects RX1 yX1_times yX1_times, .initialized RX1, .code yX1_times cX1_times 2 (some .int), .fieldLink RX1 7 "ChargeParkModel" "phase" "[I", .methodLink RX1 68 yX1_up, .static yX1_up, .code yX1_up cX1_up 2 (some .int), .methodLink RX1 62 yX1_most, .instanceMethod yX1_most, .selects RX1 yX1_most yX1_most, .code yX1_most cX1_most 2 (some .int), .fieldLink RX1 13 "ChargeParkModel" "greatest" "[I", .fieldLink RX1 23 "ChargeParkModel" "appetite" "[I", .methodLink RX1 58 yX1_stepsLeft, .instanceMethod yX1_stepsLeft, .selects RX1 yX1_stepsLeft yX1_stepsLeft, .code yX1_stepsLeft cX1_stepsLeft 2 (some .int), .fieldLink RX1 26 "ChargeParkModel" "leaves" "[I", .fieldLink RX1 55 "ChargeParkModel" "time" "I"] ++ wsX10)
def wsX1_isPoint : List Cond := .code yX1_isPoint cX1_isPoint 2 (some .boolean) :: ([.fieldLink RX1 49 "ChargeParkModel" "points" "I", .fieldLink RX1 42 "ChargeParkModel" "thrown" "I", .methodLink RX1 45 yX1_isIn, .static yX1_isIn, .initialized RX1, .code yX1_isIn cX1_isIn 3 (some .boolean)] ++ wsX10)
def wsX1_plugIn_r1 : List Cond := [Cond.fieldLink RX1 16 "ChargeParkModel" "car" "[Z", Cond.fieldLink RX1 42 "ChargeParkModel" "thrown" "I", Cond.fieldLink RX1 20 "ChargeParkModel" "need" "[I", Cond.fieldLink RX1 23 "ChargeParkModel" "appetite" "[I", Cond.fieldLink RX1 26 "ChargeParkModel" "leaves" "[I", Cond.fieldLink RX1 55 "ChargeParkModel" "time" "I", Cond.methodLink RX1 72 yX1_isPoint, Cond.instanceMethod yX1_isPoint, Cond.selects RX1 yX1_isPoint yX1_isPoint, Cond.initialized RX1, Cond.code yX1_isPoint cX1_isPoint 2 (some .boolean), Cond.fieldLink RX1 49 "ChargeParkModel" "points" "I", Cond.methodLink RX1 45 yX1_isIn, Cond.static yX1_isIn, Cond.code yX1_isIn cX1_isIn 3 (some .boolean), Cond.methodLink RX1 76 yX1_lax, Cond.instanceMethod yX1_lax, Cond.selects RX1 yX1_lax yX1_lax, Cond.code yX1_lax cX1_lax 2 (some .int), Cond.methodLink RX1 58 yX1_stepsLeft, Cond.instanceMethod yX1_stepsLeft, Cond.selects RX1 yX1_stepsLeft yX1_stepsLeft, Cond.code yX1_stepsLeft cX1_stepsLeft 2 (some .int), Cond.methodLink RX1 62 yX1_most]
def wsX1_plugIn_r2 : List Cond := [Cond.instanceMethod yX1_most, Cond.selects RX1 yX1_most yX1_most, Cond.code yX1_most cX1_most 2 (some .int), Cond.fieldLink RX1 13 "ChargeParkModel" "greatest" "[I", Cond.methodLink RX1 65 yX1_times, Cond.instanceMethod yX1_times, Cond.selects RX1 yX1_times yX1_times, Cond.code yX1_times cX1_times 2 (some .int), Cond.fieldLink RX1 7 "ChargeParkModel" "phase" "[I", Cond.methodLink RX1 68 yX1_up, Cond.static yX1_up, Cond.code yX1_up cX1_up 2 (some .int)]
def wsX1_plugIn : List Cond := .code yX1_plugIn cX1_plugIn 5 (some .int) :: ((wsX1_plugIn_r1 ++ wsX1_plugIn_r2) ++ wsX10)
def wsX1_takeOut : List Cond := .code yX1_takeOut cX1_takeOut 2 (some .int) :: ([.fieldLink RX1 16 "ChargeParkModel" "car" "[Z", .fieldLink RX1 42 "ChargeParkModel" "thrown" "I", .fieldLink RX1 79 "ChargeParkModel" "served" "I", .fieldLink RX1 20 "ChargeParkModel" "need" "[I", .methodLink RX1 72 yX1_isPoint, .instanceMethod yX1_isPoint, .selects RX1 yX1_isPoint yX1_isPoint, .initialized RX1, .code yX1_isPoint cX1_isPoint 2 (some .boolean), .fieldLink RX1 49 "ChargeParkModel" "points" "I", .methodLink RX1 45 yX1_isIn, .static yX1_isIn, .code yX1_isIn cX1_isIn 3 (some .boolean)] ++ wsX10)
def wsX1_appetite : List Cond := .code yX1_appetite cX1_appetite 4 (some .int) :: ([.fieldLink RX1 16 "ChargeParkModel" "car" "[Z", .fieldLink RX1 42 "ChargeParkModel" "thrown" "I", .fieldLink RX1 23 "ChargeParkModel" "appetite" "[I", .methodLink RX1 72 yX1_isPoint, .instanceMethod yX1_isPoint, .selects RX1 yX1_isPoint yX1_isPoint, .initialized RX1, .code yX1_isPoint cX1_isPoint 2 (some .boolean), .fieldLink RX1 49 "ChargeParkModel" "points" "I", .methodLink RX1 45 yX1_isIn, .static yX1_isIn, .code yX1_isIn cX1_isIn 3 (some .boolean)] ++ wsX10)
def wsX1_stay : List Cond := .code yX1_stay cX1_stay 3 (some .int) :: ([.fieldLink RX1 16 "ChargeParkModel" "car" "[Z", .fieldLink RX1 42 "ChargeParkModel" "thrown" "I", .fieldLink RX1 26 "ChargeParkModel" "leaves" "[I", .fieldLink RX1 55 "ChargeParkModel" "time" "I", .methodLink RX1 72 yX1_isPoint, .instanceMethod yX1_isPoint, .selects RX1 yX1_isPoint yX1_isPoint, .initialized RX1, .code yX1_isPoint cX1_isPoint 2 (some .boolean), .fieldLink RX1 49 "ChargeParkModel" "points" "I", .methodLink RX1 45 yX1_isIn, .static yX1_isIn, .code yX1_isIn cX1_isIn 3 (some .boolean), .methodLink RX1 58 yX1_stepsLeft, .instanceMethod yX1_stepsLeft, .selects RX1 yX1_stepsLeft yX1_stepsLeft, .code yX1_stepsLeft cX1_stepsLeft 2 (some .int)] ++ wsX10)
def wsX1_flows : List Cond := .code yX1_flows cX1_flows 4 (some .int) :: ([.fieldLink RX1 49 "ChargeParkModel" "points" "I", .fieldLink RX1 7 "ChargeParkModel" "phase" "[I", .fieldLink RX1 36 "ChargeParkModel" "given" "[I"] ++ wsX10)
def wsX1_room : List Cond := .code yX1_room cX1_room 5 (some .int) :: ([.fieldLink RX1 29 "ChargeParkModel" "fuse" "[I", .fieldLink RX1 7 "ChargeParkModel" "phase" "[I", .methodLink RX1 82 yX1_flows, .instanceMethod yX1_flows, .selects RX1 yX1_flows yX1_flows, .initialized RX1, .code yX1_flows cX1_flows 4 (some .int), .fieldLink RX1 49 "ChargeParkModel" "points" "I", .fieldLink RX1 36 "ChargeParkModel" "given" "[I"] ++ wsX10)
def wsX1_ahead_r1 : List Cond := [Cond.fieldLink RX1 49 "ChargeParkModel" "points" "I", Cond.methodLink RX1 85 yX1_reaches, Cond.instanceMethod yX1_reaches, Cond.selects RX1 yX1_reaches yX1_reaches, Cond.initialized RX1, Cond.code yX1_reaches cX1_reaches 4 (some .int), Cond.fieldLink RX1 20 "ChargeParkModel" "need" "[I", Cond.fieldLink RX1 16 "ChargeParkModel" "car" "[Z", Cond.methodLink RX1 65 yX1_times, Cond.instanceMethod yX1_times, Cond.selects RX1 yX1_times yX1_times, Cond.code yX1_times cX1_times 2 (some .int), Cond.fieldLink RX1 7 "ChargeParkModel" "phase" "[I", Cond.methodLink RX1 68 yX1_up, Cond.static yX1_up, Cond.code yX1_up cX1_up 2 (some .int), Cond.methodLink RX1 62 yX1_most, Cond.instanceMethod yX1_most, Cond.selects RX1 yX1_most yX1_most, Cond.code yX1_most cX1_most 2 (some .int), Cond.fieldLink RX1 13 "ChargeParkModel" "greatest" "[I", Cond.fieldLink RX1 23 "ChargeParkModel" "appetite" "[I", Cond.methodLink RX1 58 yX1_stepsLeft, Cond.instanceMethod yX1_stepsLeft]
def wsX1_ahead_r2 : List Cond := [Cond.selects RX1 yX1_stepsLeft yX1_stepsLeft, Cond.code yX1_stepsLeft cX1_stepsLeft 2 (some .int), Cond.fieldLink RX1 26 "ChargeParkModel" "leaves" "[I", Cond.fieldLink RX1 55 "ChargeParkModel" "time" "I", Cond.methodLink RX1 76 yX1_lax, Cond.instanceMethod yX1_lax, Cond.selects RX1 yX1_lax yX1_lax, Cond.code yX1_lax cX1_lax 2 (some .int)]
def wsX1_ahead : List Cond := .code yX1_ahead cX1_ahead 4 (some .int) :: ((wsX1_ahead_r1 ++ wsX1_ahead_r2) ++ wsX10)
def wsX1_byLaxity_r1 : List Cond := [Cond.fieldLink RX1 49 "ChargeParkModel" "points" "I", Cond.fieldLink RX1 36 "ChargeParkModel" "given" "[I", Cond.methodLink RX1 85 yX1_reaches, Cond.instanceMethod yX1_reaches, Cond.selects RX1 yX1_reaches yX1_reaches, Cond.initialized RX1, Cond.code yX1_reaches cX1_reaches 4 (some .int), Cond.fieldLink RX1 20 "ChargeParkModel" "need" "[I", Cond.fieldLink RX1 16 "ChargeParkModel" "car" "[Z", Cond.methodLink RX1 65 yX1_times, Cond.instanceMethod yX1_times, Cond.selects RX1 yX1_times yX1_times, Cond.code yX1_times cX1_times 2 (some .int), Cond.fieldLink RX1 7 "ChargeParkModel" "phase" "[I", Cond.methodLink RX1 68 yX1_up, Cond.static yX1_up, Cond.code yX1_up cX1_up 2 (some .int), Cond.methodLink RX1 62 yX1_most, Cond.instanceMethod yX1_most, Cond.selects RX1 yX1_most yX1_most, Cond.code yX1_most cX1_most 2 (some .int), Cond.fieldLink RX1 13 "ChargeParkModel" "greatest" "[I", Cond.fieldLink RX1 23 "ChargeParkModel" "appetite" "[I", Cond.methodLink RX1 58 yX1_stepsLeft]
def wsX1_byLaxity_r2 : List Cond := [Cond.instanceMethod yX1_stepsLeft, Cond.selects RX1 yX1_stepsLeft yX1_stepsLeft, Cond.code yX1_stepsLeft cX1_stepsLeft 2 (some .int), Cond.fieldLink RX1 26 "ChargeParkModel" "leaves" "[I", Cond.fieldLink RX1 55 "ChargeParkModel" "time" "I", Cond.methodLink RX1 88 yX1_ahead, Cond.instanceMethod yX1_ahead, Cond.selects RX1 yX1_ahead yX1_ahead, Cond.code yX1_ahead cX1_ahead 4 (some .int), Cond.methodLink RX1 76 yX1_lax, Cond.instanceMethod yX1_lax, Cond.selects RX1 yX1_lax yX1_lax, Cond.code yX1_lax cX1_lax 2 (some .int), Cond.methodLink RX1 91 yX1_room, Cond.instanceMethod yX1_room, Cond.selects RX1 yX1_room yX1_room, Cond.code yX1_room cX1_room 5 (some .int), Cond.fieldLink RX1 29 "ChargeParkModel" "fuse" "[I", Cond.methodLink RX1 82 yX1_flows, Cond.instanceMethod yX1_flows, Cond.selects RX1 yX1_flows yX1_flows, Cond.code yX1_flows cX1_flows 4 (some .int)]
def wsX1_byLaxity : List Cond := .code yX1_byLaxity cX1_byLaxity 3 none :: ((wsX1_byLaxity_r1 ++ wsX1_byLaxity_r2) ++ wsX10)
def wsX1_fairly_r1 : List Cond := [Cond.fieldLink RX1 49 "ChargeParkModel" "points" "I", Cond.fieldLink RX1 36 "ChargeParkModel" "given" "[I", Cond.fieldLink RX1 39 "ChargeParkModel" "passed" "[Z", Cond.methodLink RX1 85 yX1_reaches, Cond.instanceMethod yX1_reaches, Cond.selects RX1 yX1_reaches yX1_reaches, Cond.initialized RX1, Cond.code yX1_reaches cX1_reaches 4 (some .int), Cond.fieldLink RX1 20 "ChargeParkModel" "need" "[I", Cond.fieldLink RX1 16 "ChargeParkModel" "car" "[Z", Cond.methodLink RX1 65 yX1_times, Cond.instanceMethod yX1_times, Cond.selects RX1 yX1_times yX1_times, Cond.code yX1_times cX1_times 2 (some .int), Cond.fieldLink RX1 7 "ChargeParkModel" "phase" "[I", Cond.methodLink RX1 68 yX1_up, Cond.static yX1_up, Cond.code yX1_up cX1_up 2 (some .int), Cond.methodLink RX1 62 yX1_most, Cond.instanceMethod yX1_most, Cond.selects RX1 yX1_most yX1_most, Cond.code yX1_most cX1_most 2 (some .int), Cond.fieldLink RX1 13 "ChargeParkModel" "greatest" "[I", Cond.fieldLink RX1 23 "ChargeParkModel" "appetite" "[I"]
def wsX1_fairly_r2 : List Cond := [Cond.methodLink RX1 58 yX1_stepsLeft, Cond.instanceMethod yX1_stepsLeft, Cond.selects RX1 yX1_stepsLeft yX1_stepsLeft, Cond.code yX1_stepsLeft cX1_stepsLeft 2 (some .int), Cond.fieldLink RX1 26 "ChargeParkModel" "leaves" "[I", Cond.fieldLink RX1 55 "ChargeParkModel" "time" "I", Cond.methodLink RX1 91 yX1_room, Cond.instanceMethod yX1_room, Cond.selects RX1 yX1_room yX1_room, Cond.code yX1_room cX1_room 5 (some .int), Cond.fieldLink RX1 29 "ChargeParkModel" "fuse" "[I", Cond.methodLink RX1 82 yX1_flows, Cond.instanceMethod yX1_flows, Cond.selects RX1 yX1_flows yX1_flows, Cond.code yX1_flows cX1_flows 4 (some .int)]
def wsX1_fairly : List Cond := .code yX1_fairly cX1_fairly 3 none :: ((wsX1_fairly_r1 ++ wsX1_fairly_r2) ++ wsX10)
def wsX1_high : List Cond := .code yX1_high cX1_high 3 (some .int) :: ([.methodLink RX1 82 yX1_flows, .instanceMethod yX1_flows, .selects RX1 yX1_flows yX1_flows, .initialized RX1, .code yX1_flows cX1_flows 4 (some .int), .fieldLink RX1 49 "ChargeParkModel" "points" "I", .fieldLink RX1 7 "ChargeParkModel" "phase" "[I", .fieldLink RX1 36 "ChargeParkModel" "given" "[I"] ++ wsX10)
def wsX1_apart : List Cond := .code yX1_apart cX1_apart 3 (some .int) :: ([.methodLink RX1 82 yX1_flows, .instanceMethod yX1_flows, .selects RX1 yX1_flows yX1_flows, .initialized RX1, .code yX1_flows cX1_flows 4 (some .int), .fieldLink RX1 49 "ChargeParkModel" "points" "I", .fieldLink RX1 7 "ChargeParkModel" "phase" "[I", .fieldLink RX1 36 "ChargeParkModel" "given" "[I", .methodLink RX1 94 yX1_high, .instanceMethod yX1_high, .selects RX1 yX1_high yX1_high, .code yX1_high cX1_high 3 (some .int)] ++ wsX10)
def wsX1_giver : List Cond := .code yX1_giver cX1_giver 6 (some .int) :: ([.fieldLink RX1 49 "ChargeParkModel" "points" "I", .fieldLink RX1 7 "ChargeParkModel" "phase" "[I", .fieldLink RX1 36 "ChargeParkModel" "given" "[I"] ++ wsX10)
def wsX1_shares_r1 : List Cond := [Cond.fieldLink RX1 36 "ChargeParkModel" "given" "[I", Cond.fieldLink RX1 39 "ChargeParkModel" "passed" "[Z", Cond.fieldLink RX1 52 "ChargeParkModel" "rule" "I", Cond.fieldLink RX1 32 "ChargeParkModel" "balance" "I", Cond.methodLink RX1 98 yX1_byLaxity, Cond.instanceMethod yX1_byLaxity, Cond.selects RX1 yX1_byLaxity yX1_byLaxity, Cond.initialized RX1, Cond.code yX1_byLaxity cX1_byLaxity 3 none, Cond.fieldLink RX1 49 "ChargeParkModel" "points" "I", Cond.methodLink RX1 85 yX1_reaches, Cond.instanceMethod yX1_reaches, Cond.selects RX1 yX1_reaches yX1_reaches, Cond.code yX1_reaches cX1_reaches 4 (some .int), Cond.fieldLink RX1 20 "ChargeParkModel" "need" "[I", Cond.fieldLink RX1 16 "ChargeParkModel" "car" "[Z", Cond.methodLink RX1 65 yX1_times, Cond.instanceMethod yX1_times, Cond.selects RX1 yX1_times yX1_times, Cond.code yX1_times cX1_times 2 (some .int), Cond.fieldLink RX1 7 "ChargeParkModel" "phase" "[I", Cond.methodLink RX1 68 yX1_up, Cond.static yX1_up, Cond.code yX1_up cX1_up 2 (some .int)]
def wsX1_shares_r2 : List Cond := [Cond.methodLink RX1 62 yX1_most, Cond.instanceMethod yX1_most, Cond.selects RX1 yX1_most yX1_most, Cond.code yX1_most cX1_most 2 (some .int), Cond.fieldLink RX1 13 "ChargeParkModel" "greatest" "[I", Cond.fieldLink RX1 23 "ChargeParkModel" "appetite" "[I", Cond.methodLink RX1 58 yX1_stepsLeft, Cond.instanceMethod yX1_stepsLeft, Cond.selects RX1 yX1_stepsLeft yX1_stepsLeft, Cond.code yX1_stepsLeft cX1_stepsLeft 2 (some .int), Cond.fieldLink RX1 26 "ChargeParkModel" "leaves" "[I", Cond.fieldLink RX1 55 "ChargeParkModel" "time" "I", Cond.methodLink RX1 88 yX1_ahead, Cond.instanceMethod yX1_ahead, Cond.selects RX1 yX1_ahead yX1_ahead, Cond.code yX1_ahead cX1_ahead 4 (some .int), Cond.methodLink RX1 76 yX1_lax, Cond.instanceMethod yX1_lax, Cond.selects RX1 yX1_lax yX1_lax, Cond.code yX1_lax cX1_lax 2 (some .int), Cond.methodLink RX1 91 yX1_room, Cond.instanceMethod yX1_room, Cond.selects RX1 yX1_room yX1_room, Cond.code yX1_room cX1_room 5 (some .int)]
def wsX1_shares_r3 : List Cond := [Cond.fieldLink RX1 29 "ChargeParkModel" "fuse" "[I", Cond.methodLink RX1 82 yX1_flows, Cond.instanceMethod yX1_flows, Cond.selects RX1 yX1_flows yX1_flows, Cond.code yX1_flows cX1_flows 4 (some .int), Cond.methodLink RX1 101 yX1_fairly, Cond.instanceMethod yX1_fairly, Cond.selects RX1 yX1_fairly yX1_fairly, Cond.code yX1_fairly cX1_fairly 3 none, Cond.methodLink RX1 104 yX1_apart, Cond.instanceMethod yX1_apart, Cond.selects RX1 yX1_apart yX1_apart, Cond.code yX1_apart cX1_apart 3 (some .int), Cond.methodLink RX1 94 yX1_high, Cond.instanceMethod yX1_high, Cond.selects RX1 yX1_high yX1_high, Cond.code yX1_high cX1_high 3 (some .int), Cond.methodLink RX1 107 yX1_giver, Cond.instanceMethod yX1_giver, Cond.selects RX1 yX1_giver yX1_giver, Cond.code yX1_giver cX1_giver 6 (some .int)]
def wsX1_shares : List Cond := .code yX1_shares cX1_shares 2 none :: ((wsX1_shares_r1 ++ (wsX1_shares_r2 ++ wsX1_shares_r3)) ++ wsX10)
def wsX1_step_r1 : List Cond := [Cond.fieldLink RX1 42 "ChargeParkModel" "thrown" "I", Cond.fieldLink RX1 49 "ChargeParkModel" "points" "I", Cond.fieldLink RX1 36 "ChargeParkModel" "given" "[I", Cond.fieldLink RX1 20 "ChargeParkModel" "need" "[I", Cond.fieldLink RX1 55 "ChargeParkModel" "time" "I", Cond.fieldLink RX1 113 "ChargeParkModel" "taken" "I", Cond.methodLink RX1 45 yX1_isIn, Cond.static yX1_isIn, Cond.initialized RX1, Cond.code yX1_isIn cX1_isIn 3 (some .boolean), Cond.methodLink RX1 110 yX1_shares, Cond.instanceMethod yX1_shares, Cond.selects RX1 yX1_shares yX1_shares, Cond.code yX1_shares cX1_shares 2 none, Cond.fieldLink RX1 39 "ChargeParkModel" "passed" "[Z", Cond.fieldLink RX1 52 "ChargeParkModel" "rule" "I", Cond.fieldLink RX1 32 "ChargeParkModel" "balance" "I", Cond.methodLink RX1 98 yX1_byLaxity, Cond.instanceMethod yX1_byLaxity, Cond.selects RX1 yX1_byLaxity yX1_byLaxity, Cond.code yX1_byLaxity cX1_byLaxity 3 none, Cond.methodLink RX1 85 yX1_reaches, Cond.instanceMethod yX1_reaches, Cond.selects RX1 yX1_reaches yX1_reaches]
def wsX1_step_r2 : List Cond := [Cond.code yX1_reaches cX1_reaches 4 (some .int), Cond.fieldLink RX1 16 "ChargeParkModel" "car" "[Z", Cond.methodLink RX1 65 yX1_times, Cond.instanceMethod yX1_times, Cond.selects RX1 yX1_times yX1_times, Cond.code yX1_times cX1_times 2 (some .int), Cond.fieldLink RX1 7 "ChargeParkModel" "phase" "[I", Cond.methodLink RX1 68 yX1_up, Cond.static yX1_up, Cond.code yX1_up cX1_up 2 (some .int), Cond.methodLink RX1 62 yX1_most, Cond.instanceMethod yX1_most, Cond.selects RX1 yX1_most yX1_most, Cond.code yX1_most cX1_most 2 (some .int), Cond.fieldLink RX1 13 "ChargeParkModel" "greatest" "[I", Cond.fieldLink RX1 23 "ChargeParkModel" "appetite" "[I", Cond.methodLink RX1 58 yX1_stepsLeft, Cond.instanceMethod yX1_stepsLeft, Cond.selects RX1 yX1_stepsLeft yX1_stepsLeft, Cond.code yX1_stepsLeft cX1_stepsLeft 2 (some .int), Cond.fieldLink RX1 26 "ChargeParkModel" "leaves" "[I", Cond.methodLink RX1 88 yX1_ahead, Cond.instanceMethod yX1_ahead, Cond.selects RX1 yX1_ahead yX1_ahead]
def wsX1_step_r3 : List Cond := [Cond.code yX1_ahead cX1_ahead 4 (some .int), Cond.methodLink RX1 76 yX1_lax, Cond.instanceMethod yX1_lax, Cond.selects RX1 yX1_lax yX1_lax, Cond.code yX1_lax cX1_lax 2 (some .int), Cond.methodLink RX1 91 yX1_room, Cond.instanceMethod yX1_room, Cond.selects RX1 yX1_room yX1_room, Cond.code yX1_room cX1_room 5 (some .int), Cond.fieldLink RX1 29 "ChargeParkModel" "fuse" "[I", Cond.methodLink RX1 82 yX1_flows, Cond.instanceMethod yX1_flows, Cond.selects RX1 yX1_flows yX1_flows, Cond.code yX1_flows cX1_flows 4 (some .int), Cond.methodLink RX1 101 yX1_fairly, Cond.instanceMethod yX1_fairly, Cond.selects RX1 yX1_fairly yX1_fairly, Cond.code yX1_fairly cX1_fairly 3 none, Cond.methodLink RX1 104 yX1_apart, Cond.instanceMethod yX1_apart, Cond.selects RX1 yX1_apart yX1_apart, Cond.code yX1_apart cX1_apart 3 (some .int), Cond.methodLink RX1 94 yX1_high, Cond.instanceMethod yX1_high]
def wsX1_step_r4 : List Cond := [Cond.selects RX1 yX1_high yX1_high, Cond.code yX1_high cX1_high 3 (some .int), Cond.methodLink RX1 107 yX1_giver, Cond.instanceMethod yX1_giver, Cond.selects RX1 yX1_giver yX1_giver, Cond.code yX1_giver cX1_giver 6 (some .int)]
def wsX1_step : List Cond := .code yX1_step cX1_step 6 (some .int) :: ((wsX1_step_r1 ++ (wsX1_step_r2 ++ (wsX1_step_r3 ++ wsX1_step_r4))) ++ wsX10)
def wsX1_time : List Cond := .code yX1_time cX1_time 1 (some .int) :: ([.fieldLink RX1 42 "ChargeParkModel" "thrown" "I", .fieldLink RX1 55 "ChargeParkModel" "time" "I"] ++ wsX10)
def wsX1_points : List Cond := .code yX1_points cX1_points 1 (some .int) :: ([.fieldLink RX1 42 "ChargeParkModel" "thrown" "I", .fieldLink RX1 49 "ChargeParkModel" "points" "I"] ++ wsX10)
def wsX1_taken : List Cond := .code yX1_taken cX1_taken 1 (some .int) :: ([.fieldLink RX1 42 "ChargeParkModel" "thrown" "I", .fieldLink RX1 113 "ChargeParkModel" "taken" "I"] ++ wsX10)
def wsX1_served : List Cond := .code yX1_served cX1_served 1 (some .int) :: ([.fieldLink RX1 42 "ChargeParkModel" "thrown" "I", .fieldLink RX1 79 "ChargeParkModel" "served" "I"] ++ wsX10)
def wsX1_need : List Cond := .code yX1_need cX1_need 2 (some .int) :: ([.fieldLink RX1 16 "ChargeParkModel" "car" "[Z", .fieldLink RX1 20 "ChargeParkModel" "need" "[I", .methodLink RX1 72 yX1_isPoint, .instanceMethod yX1_isPoint, .selects RX1 yX1_isPoint yX1_isPoint, .initialized RX1, .code yX1_isPoint cX1_isPoint 2 (some .boolean), .fieldLink RX1 49 "ChargeParkModel" "points" "I", .fieldLink RX1 42 "ChargeParkModel" "thrown" "I", .methodLink RX1 45 yX1_isIn, .static yX1_isIn, .code yX1_isIn cX1_isIn 3 (some .boolean)] ++ wsX10)
def wsX1_left : List Cond := .code yX1_left cX1_left 2 (some .int) :: ([.fieldLink RX1 16 "ChargeParkModel" "car" "[Z", .methodLink RX1 72 yX1_isPoint, .instanceMethod yX1_isPoint, .selects RX1 yX1_isPoint yX1_isPoint, .initialized RX1, .code yX1_isPoint cX1_isPoint 2 (some .boolean), .fieldLink RX1 49 "ChargeParkModel" "points" "I", .fieldLink RX1 42 "ChargeParkModel" "thrown" "I", .methodLink RX1 45 yX1_isIn, .static yX1_isIn, .code yX1_isIn cX1_isIn 3 (some .boolean), .methodLink RX1 58 yX1_stepsLeft, .instanceMethod yX1_stepsLeft, .selects RX1 yX1_stepsLeft yX1_stepsLeft, .code yX1_stepsLeft cX1_stepsLeft 2 (some .int), .fieldLink RX1 26 "ChargeParkModel" "leaves" "[I", .fieldLink RX1 55 "ChargeParkModel" "time" "I"] ++ wsX10)
def wsX1_laxity_r1 : List Cond := [Cond.fieldLink RX1 16 "ChargeParkModel" "car" "[Z", Cond.fieldLink RX1 42 "ChargeParkModel" "thrown" "I", Cond.methodLink RX1 72 yX1_isPoint, Cond.instanceMethod yX1_isPoint, Cond.selects RX1 yX1_isPoint yX1_isPoint, Cond.initialized RX1, Cond.code yX1_isPoint cX1_isPoint 2 (some .boolean), Cond.fieldLink RX1 49 "ChargeParkModel" "points" "I", Cond.methodLink RX1 45 yX1_isIn, Cond.static yX1_isIn, Cond.code yX1_isIn cX1_isIn 3 (some .boolean), Cond.methodLink RX1 76 yX1_lax, Cond.instanceMethod yX1_lax, Cond.selects RX1 yX1_lax yX1_lax, Cond.code yX1_lax cX1_lax 2 (some .int), Cond.fieldLink RX1 20 "ChargeParkModel" "need" "[I", Cond.methodLink RX1 58 yX1_stepsLeft, Cond.instanceMethod yX1_stepsLeft, Cond.selects RX1 yX1_stepsLeft yX1_stepsLeft, Cond.code yX1_stepsLeft cX1_stepsLeft 2 (some .int), Cond.fieldLink RX1 26 "ChargeParkModel" "leaves" "[I", Cond.fieldLink RX1 55 "ChargeParkModel" "time" "I", Cond.methodLink RX1 62 yX1_most, Cond.instanceMethod yX1_most]
def wsX1_laxity_r2 : List Cond := [Cond.selects RX1 yX1_most yX1_most, Cond.code yX1_most cX1_most 2 (some .int), Cond.fieldLink RX1 13 "ChargeParkModel" "greatest" "[I", Cond.fieldLink RX1 23 "ChargeParkModel" "appetite" "[I", Cond.methodLink RX1 65 yX1_times, Cond.instanceMethod yX1_times, Cond.selects RX1 yX1_times yX1_times, Cond.code yX1_times cX1_times 2 (some .int), Cond.fieldLink RX1 7 "ChargeParkModel" "phase" "[I", Cond.methodLink RX1 68 yX1_up, Cond.static yX1_up, Cond.code yX1_up cX1_up 2 (some .int)]
def wsX1_laxity : List Cond := .code yX1_laxity cX1_laxity 2 (some .int) :: ((wsX1_laxity_r1 ++ wsX1_laxity_r2) ++ wsX10)
def wsX1_reach_r1 : List Cond := [Cond.methodLink RX1 72 yX1_isPoint, Cond.instanceMethod yX1_isPoint, Cond.selects RX1 yX1_isPoint yX1_isPoint, Cond.initialized RX1, Cond.code yX1_isPoint cX1_isPoint 2 (some .boolean), Cond.fieldLink RX1 49 "ChargeParkModel" "points" "I", Cond.fieldLink RX1 42 "ChargeParkModel" "thrown" "I", Cond.methodLink RX1 45 yX1_isIn, Cond.static yX1_isIn, Cond.code yX1_isIn cX1_isIn 3 (some .boolean), Cond.methodLink RX1 85 yX1_reaches, Cond.instanceMethod yX1_reaches, Cond.selects RX1 yX1_reaches yX1_reaches, Cond.code yX1_reaches cX1_reaches 4 (some .int), Cond.fieldLink RX1 20 "ChargeParkModel" "need" "[I", Cond.fieldLink RX1 16 "ChargeParkModel" "car" "[Z", Cond.methodLink RX1 65 yX1_times, Cond.instanceMethod yX1_times, Cond.selects RX1 yX1_times yX1_times, Cond.code yX1_times cX1_times 2 (some .int), Cond.fieldLink RX1 7 "ChargeParkModel" "phase" "[I", Cond.methodLink RX1 68 yX1_up, Cond.static yX1_up, Cond.code yX1_up cX1_up 2 (some .int)]
def wsX1_reach_r2 : List Cond := [Cond.methodLink RX1 62 yX1_most, Cond.instanceMethod yX1_most, Cond.selects RX1 yX1_most yX1_most, Cond.code yX1_most cX1_most 2 (some .int), Cond.fieldLink RX1 13 "ChargeParkModel" "greatest" "[I", Cond.fieldLink RX1 23 "ChargeParkModel" "appetite" "[I", Cond.methodLink RX1 58 yX1_stepsLeft, Cond.instanceMethod yX1_stepsLeft, Cond.selects RX1 yX1_stepsLeft yX1_stepsLeft, Cond.code yX1_stepsLeft cX1_stepsLeft 2 (some .int), Cond.fieldLink RX1 26 "ChargeParkModel" "leaves" "[I", Cond.fieldLink RX1 55 "ChargeParkModel" "time" "I"]
def wsX1_reach : List Cond := .code yX1_reach cX1_reach 2 (some .int) :: ((wsX1_reach_r1 ++ wsX1_reach_r2) ++ wsX10)
def wsX1_current_r1 : List Cond := [Cond.fieldLink RX1 36 "ChargeParkModel" "given" "[I", Cond.methodLink RX1 72 yX1_isPoint, Cond.instanceMethod yX1_isPoint, Cond.selects RX1 yX1_isPoint yX1_isPoint, Cond.initialized RX1, Cond.code yX1_isPoint cX1_isPoint 2 (some .boolean), Cond.fieldLink RX1 49 "ChargeParkModel" "points" "I", Cond.fieldLink RX1 42 "ChargeParkModel" "thrown" "I", Cond.methodLink RX1 45 yX1_isIn, Cond.static yX1_isIn, Cond.code yX1_isIn cX1_isIn 3 (some .boolean), Cond.methodLink RX1 110 yX1_shares, Cond.instanceMethod yX1_shares, Cond.selects RX1 yX1_shares yX1_shares, Cond.code yX1_shares cX1_shares 2 none, Cond.fieldLink RX1 39 "ChargeParkModel" "passed" "[Z", Cond.fieldLink RX1 52 "ChargeParkModel" "rule" "I", Cond.fieldLink RX1 32 "ChargeParkModel" "balance" "I", Cond.methodLink RX1 98 yX1_byLaxity, Cond.instanceMethod yX1_byLaxity, Cond.selects RX1 yX1_byLaxity yX1_byLaxity, Cond.code yX1_byLaxity cX1_byLaxity 3 none, Cond.methodLink RX1 85 yX1_reaches, Cond.instanceMethod yX1_reaches]
def wsX1_current_r2 : List Cond := [Cond.selects RX1 yX1_reaches yX1_reaches, Cond.code yX1_reaches cX1_reaches 4 (some .int), Cond.fieldLink RX1 20 "ChargeParkModel" "need" "[I", Cond.fieldLink RX1 16 "ChargeParkModel" "car" "[Z", Cond.methodLink RX1 65 yX1_times, Cond.instanceMethod yX1_times, Cond.selects RX1 yX1_times yX1_times, Cond.code yX1_times cX1_times 2 (some .int), Cond.fieldLink RX1 7 "ChargeParkModel" "phase" "[I", Cond.methodLink RX1 68 yX1_up, Cond.static yX1_up, Cond.code yX1_up cX1_up 2 (some .int), Cond.methodLink RX1 62 yX1_most, Cond.instanceMethod yX1_most, Cond.selects RX1 yX1_most yX1_most, Cond.code yX1_most cX1_most 2 (some .int), Cond.fieldLink RX1 13 "ChargeParkModel" "greatest" "[I", Cond.fieldLink RX1 23 "ChargeParkModel" "appetite" "[I", Cond.methodLink RX1 58 yX1_stepsLeft, Cond.instanceMethod yX1_stepsLeft, Cond.selects RX1 yX1_stepsLeft yX1_stepsLeft, Cond.code yX1_stepsLeft cX1_stepsLeft 2 (some .int), Cond.fieldLink RX1 26 "ChargeParkModel" "leaves" "[I", Cond.fieldLink RX1 55 "ChargeParkModel" "time" "I"]
def wsX1_current_r3 : List Cond := [Cond.methodLink RX1 88 yX1_ahead, Cond.instanceMethod yX1_ahead, Cond.selects RX1 yX1_ahead yX1_ahead, Cond.code yX1_ahead cX1_ahead 4 (some .int), Cond.methodLink RX1 76 yX1_lax, Cond.instanceMethod yX1_lax, Cond.selects RX1 yX1_lax yX1_lax, Cond.code yX1_lax cX1_lax 2 (some .int), Cond.methodLink RX1 91 yX1_room, Cond.instanceMethod yX1_room, Cond.selects RX1 yX1_room yX1_room, Cond.code yX1_room cX1_room 5 (some .int), Cond.fieldLink RX1 29 "ChargeParkModel" "fuse" "[I", Cond.methodLink RX1 82 yX1_flows, Cond.instanceMethod yX1_flows, Cond.selects RX1 yX1_flows yX1_flows, Cond.code yX1_flows cX1_flows 4 (some .int), Cond.methodLink RX1 101 yX1_fairly, Cond.instanceMethod yX1_fairly, Cond.selects RX1 yX1_fairly yX1_fairly, Cond.code yX1_fairly cX1_fairly 3 none, Cond.methodLink RX1 104 yX1_apart, Cond.instanceMethod yX1_apart, Cond.selects RX1 yX1_apart yX1_apart]
def wsX1_current_r4 : List Cond := [Cond.code yX1_apart cX1_apart 3 (some .int), Cond.methodLink RX1 94 yX1_high, Cond.instanceMethod yX1_high, Cond.selects RX1 yX1_high yX1_high, Cond.code yX1_high cX1_high 3 (some .int), Cond.methodLink RX1 107 yX1_giver, Cond.instanceMethod yX1_giver, Cond.selects RX1 yX1_giver yX1_giver, Cond.code yX1_giver cX1_giver 6 (some .int)]
def wsX1_current : List Cond := .code yX1_current cX1_current 2 (some .int) :: ((wsX1_current_r1 ++ (wsX1_current_r2 ++ (wsX1_current_r3 ++ wsX1_current_r4))) ++ wsX10)
def wsX1_load_r1 : List Cond := [Cond.fieldLink RX1 42 "ChargeParkModel" "thrown" "I", Cond.methodLink RX1 45 yX1_isIn, Cond.static yX1_isIn, Cond.initialized RX1, Cond.code yX1_isIn cX1_isIn 3 (some .boolean), Cond.methodLink RX1 110 yX1_shares, Cond.instanceMethod yX1_shares, Cond.selects RX1 yX1_shares yX1_shares, Cond.code yX1_shares cX1_shares 2 none, Cond.fieldLink RX1 36 "ChargeParkModel" "given" "[I", Cond.fieldLink RX1 39 "ChargeParkModel" "passed" "[Z", Cond.fieldLink RX1 52 "ChargeParkModel" "rule" "I", Cond.fieldLink RX1 32 "ChargeParkModel" "balance" "I", Cond.methodLink RX1 98 yX1_byLaxity, Cond.instanceMethod yX1_byLaxity, Cond.selects RX1 yX1_byLaxity yX1_byLaxity, Cond.code yX1_byLaxity cX1_byLaxity 3 none, Cond.fieldLink RX1 49 "ChargeParkModel" "points" "I", Cond.methodLink RX1 85 yX1_reaches, Cond.instanceMethod yX1_reaches, Cond.selects RX1 yX1_reaches yX1_reaches, Cond.code yX1_reaches cX1_reaches 4 (some .int), Cond.fieldLink RX1 20 "ChargeParkModel" "need" "[I", Cond.fieldLink RX1 16 "ChargeParkModel" "car" "[Z"]
def wsX1_load_r2 : List Cond := [Cond.methodLink RX1 65 yX1_times, Cond.instanceMethod yX1_times, Cond.selects RX1 yX1_times yX1_times, Cond.code yX1_times cX1_times 2 (some .int), Cond.fieldLink RX1 7 "ChargeParkModel" "phase" "[I", Cond.methodLink RX1 68 yX1_up, Cond.static yX1_up, Cond.code yX1_up cX1_up 2 (some .int), Cond.methodLink RX1 62 yX1_most, Cond.instanceMethod yX1_most, Cond.selects RX1 yX1_most yX1_most, Cond.code yX1_most cX1_most 2 (some .int), Cond.fieldLink RX1 13 "ChargeParkModel" "greatest" "[I", Cond.fieldLink RX1 23 "ChargeParkModel" "appetite" "[I", Cond.methodLink RX1 58 yX1_stepsLeft, Cond.instanceMethod yX1_stepsLeft, Cond.selects RX1 yX1_stepsLeft yX1_stepsLeft, Cond.code yX1_stepsLeft cX1_stepsLeft 2 (some .int), Cond.fieldLink RX1 26 "ChargeParkModel" "leaves" "[I", Cond.fieldLink RX1 55 "ChargeParkModel" "time" "I", Cond.methodLink RX1 88 yX1_ahead, Cond.instanceMethod yX1_ahead, Cond.selects RX1 yX1_ahead yX1_ahead, Cond.code yX1_ahead cX1_ahead 4 (some .int)]
def wsX1_load_r3 : List Cond := [Cond.methodLink RX1 76 yX1_lax, Cond.instanceMethod yX1_lax, Cond.selects RX1 yX1_lax yX1_lax, Cond.code yX1_lax cX1_lax 2 (some .int), Cond.methodLink RX1 91 yX1_room, Cond.instanceMethod yX1_room, Cond.selects RX1 yX1_room yX1_room, Cond.code yX1_room cX1_room 5 (some .int), Cond.fieldLink RX1 29 "ChargeParkModel" "fuse" "[I", Cond.methodLink RX1 82 yX1_flows, Cond.instanceMethod yX1_flows, Cond.selects RX1 yX1_flows yX1_flows, Cond.code yX1_flows cX1_flows 4 (some .int), Cond.methodLink RX1 101 yX1_fairly, Cond.instanceMethod yX1_fairly, Cond.selects RX1 yX1_fairly yX1_fairly, Cond.code yX1_fairly cX1_fairly 3 none, Cond.methodLink RX1 104 yX1_apart, Cond.instanceMethod yX1_apart, Cond.selects RX1 yX1_apart yX1_apart, Cond.code yX1_apart cX1_apart 3 (some .int), Cond.methodLink RX1 94 yX1_high, Cond.instanceMethod yX1_high, Cond.selects RX1 yX1_high yX1_high]
def wsX1_load_r4 : List Cond := [Cond.code yX1_high cX1_high 3 (some .int), Cond.methodLink RX1 107 yX1_giver, Cond.instanceMethod yX1_giver, Cond.selects RX1 yX1_giver yX1_giver, Cond.code yX1_giver cX1_giver 6 (some .int)]
def wsX1_load : List Cond := .code yX1_load cX1_load 2 (some .int) :: ((wsX1_load_r1 ++ (wsX1_load_r2 ++ (wsX1_load_r3 ++ wsX1_load_r4))) ++ wsX10)
def wsX1_imbalance_r1 : List Cond := [Cond.fieldLink RX1 42 "ChargeParkModel" "thrown" "I", Cond.methodLink RX1 110 yX1_shares, Cond.instanceMethod yX1_shares, Cond.selects RX1 yX1_shares yX1_shares, Cond.initialized RX1, Cond.code yX1_shares cX1_shares 2 none, Cond.fieldLink RX1 36 "ChargeParkModel" "given" "[I", Cond.fieldLink RX1 39 "ChargeParkModel" "passed" "[Z", Cond.fieldLink RX1 52 "ChargeParkModel" "rule" "I", Cond.fieldLink RX1 32 "ChargeParkModel" "balance" "I", Cond.methodLink RX1 98 yX1_byLaxity, Cond.instanceMethod yX1_byLaxity, Cond.selects RX1 yX1_byLaxity yX1_byLaxity, Cond.code yX1_byLaxity cX1_byLaxity 3 none, Cond.fieldLink RX1 49 "ChargeParkModel" "points" "I", Cond.methodLink RX1 85 yX1_reaches, Cond.instanceMethod yX1_reaches, Cond.selects RX1 yX1_reaches yX1_reaches, Cond.code yX1_reaches cX1_reaches 4 (some .int), Cond.fieldLink RX1 20 "ChargeParkModel" "need" "[I", Cond.fieldLink RX1 16 "ChargeParkModel" "car" "[Z", Cond.methodLink RX1 65 yX1_times, Cond.instanceMethod yX1_times, Cond.selects RX1 yX1_times yX1_times]
def wsX1_imbalance_r2 : List Cond := [Cond.code yX1_times cX1_times 2 (some .int), Cond.fieldLink RX1 7 "ChargeParkModel" "phase" "[I", Cond.methodLink RX1 68 yX1_up, Cond.static yX1_up, Cond.code yX1_up cX1_up 2 (some .int), Cond.methodLink RX1 62 yX1_most, Cond.instanceMethod yX1_most, Cond.selects RX1 yX1_most yX1_most, Cond.code yX1_most cX1_most 2 (some .int), Cond.fieldLink RX1 13 "ChargeParkModel" "greatest" "[I", Cond.fieldLink RX1 23 "ChargeParkModel" "appetite" "[I", Cond.methodLink RX1 58 yX1_stepsLeft, Cond.instanceMethod yX1_stepsLeft, Cond.selects RX1 yX1_stepsLeft yX1_stepsLeft, Cond.code yX1_stepsLeft cX1_stepsLeft 2 (some .int), Cond.fieldLink RX1 26 "ChargeParkModel" "leaves" "[I", Cond.fieldLink RX1 55 "ChargeParkModel" "time" "I", Cond.methodLink RX1 88 yX1_ahead, Cond.instanceMethod yX1_ahead, Cond.selects RX1 yX1_ahead yX1_ahead, Cond.code yX1_ahead cX1_ahead 4 (some .int), Cond.methodLink RX1 76 yX1_lax, Cond.instanceMethod yX1_lax, Cond.selects RX1 yX1_lax yX1_lax]
def wsX1_imbalance_r3 : List Cond := [Cond.code yX1_lax cX1_lax 2 (some .int), Cond.methodLink RX1 91 yX1_room, Cond.instanceMethod yX1_room, Cond.selects RX1 yX1_room yX1_room, Cond.code yX1_room cX1_room 5 (some .int), Cond.fieldLink RX1 29 "ChargeParkModel" "fuse" "[I", Cond.methodLink RX1 82 yX1_flows, Cond.instanceMethod yX1_flows, Cond.selects RX1 yX1_flows yX1_flows, Cond.code yX1_flows cX1_flows 4 (some .int), Cond.methodLink RX1 101 yX1_fairly, Cond.instanceMethod yX1_fairly, Cond.selects RX1 yX1_fairly yX1_fairly, Cond.code yX1_fairly cX1_fairly 3 none, Cond.methodLink RX1 104 yX1_apart, Cond.instanceMethod yX1_apart, Cond.selects RX1 yX1_apart yX1_apart, Cond.code yX1_apart cX1_apart 3 (some .int), Cond.methodLink RX1 94 yX1_high, Cond.instanceMethod yX1_high, Cond.selects RX1 yX1_high yX1_high, Cond.code yX1_high cX1_high 3 (some .int), Cond.methodLink RX1 107 yX1_giver, Cond.instanceMethod yX1_giver]
def wsX1_imbalance_r4 : List Cond := [Cond.selects RX1 yX1_giver yX1_giver, Cond.code yX1_giver cX1_giver 6 (some .int)]
def wsX1_imbalance : List Cond := .code yX1_imbalance cX1_imbalance 1 (some .int) :: ((wsX1_imbalance_r1 ++ (wsX1_imbalance_r2 ++ (wsX1_imbalance_r3 ++ wsX1_imbalance_r4))) ++ wsX10)
def wsX1_held_r1 : List Cond := [Cond.fieldLink RX1 42 "ChargeParkModel" "thrown" "I", Cond.fieldLink RX1 49 "ChargeParkModel" "points" "I", Cond.fieldLink RX1 36 "ChargeParkModel" "given" "[I", Cond.methodLink RX1 110 yX1_shares, Cond.instanceMethod yX1_shares, Cond.selects RX1 yX1_shares yX1_shares, Cond.initialized RX1, Cond.code yX1_shares cX1_shares 2 none, Cond.fieldLink RX1 39 "ChargeParkModel" "passed" "[Z", Cond.fieldLink RX1 52 "ChargeParkModel" "rule" "I", Cond.fieldLink RX1 32 "ChargeParkModel" "balance" "I", Cond.methodLink RX1 98 yX1_byLaxity, Cond.instanceMethod yX1_byLaxity, Cond.selects RX1 yX1_byLaxity yX1_byLaxity, Cond.code yX1_byLaxity cX1_byLaxity 3 none, Cond.methodLink RX1 85 yX1_reaches, Cond.instanceMethod yX1_reaches, Cond.selects RX1 yX1_reaches yX1_reaches, Cond.code yX1_reaches cX1_reaches 4 (some .int), Cond.fieldLink RX1 20 "ChargeParkModel" "need" "[I", Cond.fieldLink RX1 16 "ChargeParkModel" "car" "[Z", Cond.methodLink RX1 65 yX1_times, Cond.instanceMethod yX1_times, Cond.selects RX1 yX1_times yX1_times]
def wsX1_held_r2 : List Cond := [Cond.code yX1_times cX1_times 2 (some .int), Cond.fieldLink RX1 7 "ChargeParkModel" "phase" "[I", Cond.methodLink RX1 68 yX1_up, Cond.static yX1_up, Cond.code yX1_up cX1_up 2 (some .int), Cond.methodLink RX1 62 yX1_most, Cond.instanceMethod yX1_most, Cond.selects RX1 yX1_most yX1_most, Cond.code yX1_most cX1_most 2 (some .int), Cond.fieldLink RX1 13 "ChargeParkModel" "greatest" "[I", Cond.fieldLink RX1 23 "ChargeParkModel" "appetite" "[I", Cond.methodLink RX1 58 yX1_stepsLeft, Cond.instanceMethod yX1_stepsLeft, Cond.selects RX1 yX1_stepsLeft yX1_stepsLeft, Cond.code yX1_stepsLeft cX1_stepsLeft 2 (some .int), Cond.fieldLink RX1 26 "ChargeParkModel" "leaves" "[I", Cond.fieldLink RX1 55 "ChargeParkModel" "time" "I", Cond.methodLink RX1 88 yX1_ahead, Cond.instanceMethod yX1_ahead, Cond.selects RX1 yX1_ahead yX1_ahead, Cond.code yX1_ahead cX1_ahead 4 (some .int), Cond.methodLink RX1 76 yX1_lax, Cond.instanceMethod yX1_lax, Cond.selects RX1 yX1_lax yX1_lax]
def wsX1_held_r3 : List Cond := [Cond.code yX1_lax cX1_lax 2 (some .int), Cond.methodLink RX1 91 yX1_room, Cond.instanceMethod yX1_room, Cond.selects RX1 yX1_room yX1_room, Cond.code yX1_room cX1_room 5 (some .int), Cond.fieldLink RX1 29 "ChargeParkModel" "fuse" "[I", Cond.methodLink RX1 82 yX1_flows, Cond.instanceMethod yX1_flows, Cond.selects RX1 yX1_flows yX1_flows, Cond.code yX1_flows cX1_flows 4 (some .int), Cond.methodLink RX1 101 yX1_fairly, Cond.instanceMethod yX1_fairly, Cond.selects RX1 yX1_fairly yX1_fairly, Cond.code yX1_fairly cX1_fairly 3 none, Cond.methodLink RX1 104 yX1_apart, Cond.instanceMethod yX1_apart, Cond.selects RX1 yX1_apart yX1_apart, Cond.code yX1_apart cX1_apart 3 (some .int), Cond.methodLink RX1 94 yX1_high, Cond.instanceMethod yX1_high, Cond.selects RX1 yX1_high yX1_high, Cond.code yX1_high cX1_high 3 (some .int), Cond.methodLink RX1 107 yX1_giver, Cond.instanceMethod yX1_giver]
def wsX1_held_r4 : List Cond := [Cond.selects RX1 yX1_giver yX1_giver, Cond.code yX1_giver cX1_giver 6 (some .int)]
def wsX1_held : List Cond := .code yX1_held cX1_held 3 (some .int) :: ((wsX1_held_r1 ++ (wsX1_held_r2 ++ (wsX1_held_r3 ++ wsX1_held_r4))) ++ wsX10)
def wsX1_fairLevel_r1 : List Cond := [Cond.fieldLink RX1 42 "ChargeParkModel" "thrown" "I", Cond.fieldLink RX1 29 "ChargeParkModel" "fuse" "[I", Cond.fieldLink RX1 49 "ChargeParkModel" "points" "I", Cond.fieldLink RX1 7 "ChargeParkModel" "phase" "[I", Cond.fieldLink RX1 36 "ChargeParkModel" "given" "[I", Cond.methodLink RX1 45 yX1_isIn, Cond.static yX1_isIn, Cond.initialized RX1, Cond.code yX1_isIn cX1_isIn 3 (some .boolean), Cond.methodLink RX1 110 yX1_shares, Cond.instanceMethod yX1_shares, Cond.selects RX1 yX1_shares yX1_shares, Cond.code yX1_shares cX1_shares 2 none, Cond.fieldLink RX1 39 "ChargeParkModel" "passed" "[Z", Cond.fieldLink RX1 52 "ChargeParkModel" "rule" "I", Cond.fieldLink RX1 32 "ChargeParkModel" "balance" "I", Cond.methodLink RX1 98 yX1_byLaxity, Cond.instanceMethod yX1_byLaxity, Cond.selects RX1 yX1_byLaxity yX1_byLaxity, Cond.code yX1_byLaxity cX1_byLaxity 3 none, Cond.methodLink RX1 85 yX1_reaches, Cond.instanceMethod yX1_reaches, Cond.selects RX1 yX1_reaches yX1_reaches, Cond.code yX1_reaches cX1_reaches 4 (some .int)]
def wsX1_fairLevel_r2 : List Cond := [Cond.fieldLink RX1 20 "ChargeParkModel" "need" "[I", Cond.fieldLink RX1 16 "ChargeParkModel" "car" "[Z", Cond.methodLink RX1 65 yX1_times, Cond.instanceMethod yX1_times, Cond.selects RX1 yX1_times yX1_times, Cond.code yX1_times cX1_times 2 (some .int), Cond.methodLink RX1 68 yX1_up, Cond.static yX1_up, Cond.code yX1_up cX1_up 2 (some .int), Cond.methodLink RX1 62 yX1_most, Cond.instanceMethod yX1_most, Cond.selects RX1 yX1_most yX1_most, Cond.code yX1_most cX1_most 2 (some .int), Cond.fieldLink RX1 13 "ChargeParkModel" "greatest" "[I", Cond.fieldLink RX1 23 "ChargeParkModel" "appetite" "[I", Cond.methodLink RX1 58 yX1_stepsLeft, Cond.instanceMethod yX1_stepsLeft, Cond.selects RX1 yX1_stepsLeft yX1_stepsLeft, Cond.code yX1_stepsLeft cX1_stepsLeft 2 (some .int), Cond.fieldLink RX1 26 "ChargeParkModel" "leaves" "[I", Cond.fieldLink RX1 55 "ChargeParkModel" "time" "I", Cond.methodLink RX1 88 yX1_ahead, Cond.instanceMethod yX1_ahead, Cond.selects RX1 yX1_ahead yX1_ahead]
def wsX1_fairLevel_r3 : List Cond := [Cond.code yX1_ahead cX1_ahead 4 (some .int), Cond.methodLink RX1 76 yX1_lax, Cond.instanceMethod yX1_lax, Cond.selects RX1 yX1_lax yX1_lax, Cond.code yX1_lax cX1_lax 2 (some .int), Cond.methodLink RX1 91 yX1_room, Cond.instanceMethod yX1_room, Cond.selects RX1 yX1_room yX1_room, Cond.code yX1_room cX1_room 5 (some .int), Cond.methodLink RX1 82 yX1_flows, Cond.instanceMethod yX1_flows, Cond.selects RX1 yX1_flows yX1_flows, Cond.code yX1_flows cX1_flows 4 (some .int), Cond.methodLink RX1 101 yX1_fairly, Cond.instanceMethod yX1_fairly, Cond.selects RX1 yX1_fairly yX1_fairly, Cond.code yX1_fairly cX1_fairly 3 none, Cond.methodLink RX1 104 yX1_apart, Cond.instanceMethod yX1_apart, Cond.selects RX1 yX1_apart yX1_apart, Cond.code yX1_apart cX1_apart 3 (some .int), Cond.methodLink RX1 94 yX1_high, Cond.instanceMethod yX1_high, Cond.selects RX1 yX1_high yX1_high]
def wsX1_fairLevel_r4 : List Cond := [Cond.code yX1_high cX1_high 3 (some .int), Cond.methodLink RX1 107 yX1_giver, Cond.instanceMethod yX1_giver, Cond.selects RX1 yX1_giver yX1_giver, Cond.code yX1_giver cX1_giver 6 (some .int)]
def wsX1_fairLevel : List Cond := .code yX1_fairLevel cX1_fairLevel 7 (some .int) :: ((wsX1_fairLevel_r1 ++ (wsX1_fairLevel_r2 ++ (wsX1_fairLevel_r3 ++ wsX1_fairLevel_r4))) ++ wsX10)
def wsX1_canBeReady_r1 : List Cond := [Cond.fieldLink RX1 42 "ChargeParkModel" "thrown" "I", Cond.fieldLink RX1 49 "ChargeParkModel" "points" "I", Cond.fieldLink RX1 16 "ChargeParkModel" "car" "[Z", Cond.fieldLink RX1 20 "ChargeParkModel" "need" "[I", Cond.methodLink RX1 76 yX1_lax, Cond.instanceMethod yX1_lax, Cond.selects RX1 yX1_lax yX1_lax, Cond.initialized RX1, Cond.code yX1_lax cX1_lax 2 (some .int), Cond.methodLink RX1 58 yX1_stepsLeft, Cond.instanceMethod yX1_stepsLeft, Cond.selects RX1 yX1_stepsLeft yX1_stepsLeft, Cond.code yX1_stepsLeft cX1_stepsLeft 2 (some .int), Cond.fieldLink RX1 26 "ChargeParkModel" "leaves" "[I", Cond.fieldLink RX1 55 "ChargeParkModel" "time" "I", Cond.methodLink RX1 62 yX1_most, Cond.instanceMethod yX1_most, Cond.selects RX1 yX1_most yX1_most, Cond.code yX1_most cX1_most 2 (some .int), Cond.fieldLink RX1 13 "ChargeParkModel" "greatest" "[I", Cond.fieldLink RX1 23 "ChargeParkModel" "appetite" "[I", Cond.methodLink RX1 65 yX1_times, Cond.instanceMethod yX1_times, Cond.selects RX1 yX1_times yX1_times]
def wsX1_canBeReady_r2 : List Cond := [Cond.code yX1_times cX1_times 2 (some .int), Cond.fieldLink RX1 7 "ChargeParkModel" "phase" "[I", Cond.methodLink RX1 68 yX1_up, Cond.static yX1_up, Cond.code yX1_up cX1_up 2 (some .int)]
def wsX1_canBeReady : List Cond := .code yX1_canBeReady cX1_canBeReady 3 (some .boolean) :: ((wsX1_canBeReady_r1 ++ wsX1_canBeReady_r2) ++ wsX10)
def wsJ9_max_7cf53 : List Cond := .code yJ9_max_7cf53 cJ9_max_7cf53 2 (some .int) :: ([])
def wsJ9_min_7cf53 : List Cond := .code yJ9_min_7cf53 cJ9_min_7cf53 2 (some .int) :: ([])
def wsL_point : List Cond := .codeWith yL_point cL_point 5 (some .int) [(0, 10, 13, 13), (0, 10, 17, 15)] :: ([.classLink RL 13 "java/lang/IllegalArgumentException", .classLink RL 15 "java/lang/IllegalStateException", .methodLink RL 7 yX0_point, .instanceMethod yX0_point, .selects RX0 yX0_point yX0_point, .initialized RX0, .code yX0_point cX0_point 4 (some .int), .classLink RX0 58 "java/lang/IllegalStateException", .initialized "java/lang/IllegalStateException", .fieldLink RX0 55 "ChargePark" "pointCount" "I", .fieldLink RX0 9 "ChargePark" "phaseOf" "[I", .fieldLink RX0 13 "ChargePark" "greatestOf" "[I", .fieldLink RX0 16 "ChargePark" "needOf" "[I", .methodLink RX0 47 yX0_requirePhase, .static yX0_requirePhase, .code yX0_requirePhase cX0_requirePhase 1 none, .classLink RX0 118 "java/lang/IllegalArgumentException", .initialized "java/lang/IllegalArgumentException", .methodLink RX0 51 yX0_requireWithin, .static yX0_requireWithin, .code yX0_requireWithin cX0_requireWithin 3 none] ++ wsX00 ++ (vx_atS RX0 62 "java/lang/IllegalStateException" ["java/lang/RuntimeException", "java/lang/Exception"]).filter goodWord ++ (vx_atS RX0 122 "java/lang/IllegalArgumentException" ["java/lang/RuntimeException", "java/lang/Exception"]).filter goodWord)
def wsL_fuse : List Cond := .codeWith yL_fuse cL_fuse 5 (some .int) [(0, 10, 13, 13)] :: ([.classLink RL 13 "java/lang/IllegalArgumentException", .methodLink RL 17 yX0_fuse, .instanceMethod yX0_fuse, .selects RX0 yX0_fuse yX0_fuse, .initialized RX0, .code yX0_fuse cX0_fuse 4 (some .int), .fieldLink RX0 37 "ChargePark" "fuseOf" "[I", .methodLink RX0 47 yX0_requirePhase, .static yX0_requirePhase, .code yX0_requirePhase cX0_requirePhase 1 none, .classLink RX0 118 "java/lang/IllegalArgumentException", .initialized "java/lang/IllegalArgumentException", .methodLink RX0 51 yX0_requireWithin, .static yX0_requireWithin, .code yX0_requireWithin cX0_requireWithin 3 none] ++ wsX00 ++ (vx_atS RX0 122 "java/lang/IllegalArgumentException" ["java/lang/RuntimeException", "java/lang/Exception"]).filter goodWord)
def wsL_balance : List Cond := .codeWith yL_balance cL_balance 4 (some .int) [(0, 9, 12, 13)] :: ([.classLink RL 13 "java/lang/IllegalArgumentException", .methodLink RL 20 yX0_balance, .instanceMethod yX0_balance, .selects RX0 yX0_balance yX0_balance, .initialized RX0, .code yX0_balance cX0_balance 3 (some .int), .fieldLink RX0 40 "ChargePark" "greatestDifference" "I", .methodLink RX0 51 yX0_requireWithin, .static yX0_requireWithin, .code yX0_requireWithin cX0_requireWithin 3 none, .classLink RX0 118 "java/lang/IllegalArgumentException", .initialized "java/lang/IllegalArgumentException"] ++ wsX00 ++ (vx_atS RX0 122 "java/lang/IllegalArgumentException" ["java/lang/RuntimeException", "java/lang/Exception"]).filter goodWord)
def wsL_rule : List Cond := .codeWith yL_rule cL_rule 4 (some .int) [(0, 9, 12, 13)] :: ([.classLink RL 13 "java/lang/IllegalArgumentException", .methodLink RL 24 yX0_rule, .instanceMethod yX0_rule, .selects RX0 yX0_rule yX0_rule, .initialized RX0, .code yX0_rule cX0_rule 3 (some .int), .fieldLink RX0 44 "ChargePark" "ruleInUse" "I", .methodLink RX0 51 yX0_requireWithin, .static yX0_requireWithin, .code yX0_requireWithin cX0_requireWithin 3 none, .classLink RX0 118 "java/lang/IllegalArgumentException", .initialized "java/lang/IllegalArgumentException"] ++ wsX00 ++ (vx_atS RX0 122 "java/lang/IllegalArgumentException" ["java/lang/RuntimeException", "java/lang/Exception"]).filter goodWord)
def wsL_plugIn_r1 : List Cond := [Cond.classLink RL 31 "java/lang/IndexOutOfBoundsException", Cond.classLink RL 13 "java/lang/IllegalArgumentException", Cond.classLink RL 15 "java/lang/IllegalStateException", Cond.methodLink RL 27 yX0_plugIn, Cond.instanceMethod yX0_plugIn, Cond.selects RX0 yX0_plugIn yX0_plugIn, Cond.initialized RX0, Cond.code yX0_plugIn cX0_plugIn 5 (some .int), Cond.classLink RX0 58 "java/lang/IllegalStateException", Cond.initialized "java/lang/IllegalStateException", Cond.fieldLink RX0 16 "ChargePark" "needOf" "[I", Cond.fieldLink RX0 19 "ChargePark" "appetiteOf" "[I", Cond.fieldLink RX0 22 "ChargePark" "leavesAt" "[I", Cond.fieldLink RX0 74 "ChargePark" "now" "I", Cond.methodLink RX0 65 yX0_requirePoint, Cond.instanceMethod yX0_requirePoint, Cond.selects RX0 yX0_requirePoint yX0_requirePoint, Cond.code yX0_requirePoint cX0_requirePoint 2 none, Cond.classLink RX0 125 "java/lang/IndexOutOfBoundsException", Cond.initialized "java/lang/IndexOutOfBoundsException", Cond.fieldLink RX0 55 "ChargePark" "pointCount" "I", Cond.methodLink RX0 51 yX0_requireWithin, Cond.static yX0_requireWithin, Cond.code yX0_requireWithin cX0_requireWithin 3 none]
def wsL_plugIn_r2 : List Cond := [Cond.classLink RX0 118 "java/lang/IllegalArgumentException", Cond.initialized "java/lang/IllegalArgumentException", Cond.methodLink RX0 68 yX0_hasCar, Cond.instanceMethod yX0_hasCar, Cond.selects RX0 yX0_hasCar yX0_hasCar, Cond.code yX0_hasCar cX0_hasCar 2 (some .boolean), Cond.methodLink RX0 77 yX0_laxityAt, Cond.instanceMethod yX0_laxityAt, Cond.selects RX0 yX0_laxityAt yX0_laxityAt, Cond.code yX0_laxityAt cX0_laxityAt 3 (some .int), Cond.methodLink RX0 135 yX0_lesserOfGreatestAndAppetite, Cond.instanceMethod yX0_lesserOfGreatestAndAppetite, Cond.selects RX0 yX0_lesserOfGreatestAndAppetite yX0_lesserOfGreatestAndAppetite, Cond.code yX0_lesserOfGreatestAndAppetite cX0_lesserOfGreatestAndAppetite 2 (some .int), Cond.fieldLink RX0 13 "ChargePark" "greatestOf" "[I", Cond.methodLink RX0 132 Lib.Math.min.name, Cond.static Lib.Math.min.name, Cond.initialized "java/lang/Math", Cond.code Lib.Math.min.name Lib.Math.min.code 2 (some .int), Cond.methodLink RX0 138 yX0_unitsPerAmpere, Cond.instanceMethod yX0_unitsPerAmpere, Cond.selects RX0 yX0_unitsPerAmpere yX0_unitsPerAmpere, Cond.code yX0_unitsPerAmpere cX0_unitsPerAmpere 2 (some .int), Cond.fieldLink RX0 9 "ChargePark" "phaseOf" "[I"]
def wsL_plugIn_r3 : List Cond := [Cond.methodLink RX0 93 yX0_stepsLeftAt, Cond.instanceMethod yX0_stepsLeftAt, Cond.selects RX0 yX0_stepsLeftAt yX0_stepsLeftAt, Cond.code yX0_stepsLeftAt cX0_stepsLeftAt 2 (some .int), Cond.methodLink RX0 87 Lib.Math.max.name, Cond.static Lib.Math.max.name, Cond.code Lib.Math.max.name Lib.Math.max.code 2 (some .int), Cond.methodLink RX0 141 yX0_dividedRoundedUp, Cond.static yX0_dividedRoundedUp, Cond.code yX0_dividedRoundedUp cX0_dividedRoundedUp 2 (some .int)]
def wsL_plugIn : List Cond := .codeWith yL_plugIn cL_plugIn 7 (some .int) [(0, 14, 17, 31), (0, 14, 21, 13), (0, 14, 25, 15)] :: ((wsL_plugIn_r1 ++ (wsL_plugIn_r2 ++ wsL_plugIn_r3)) ++ wsX00 ++ (vx_atS RX0 62 "java/lang/IllegalStateException" ["java/lang/RuntimeException", "java/lang/Exception"]).filter goodWord ++ (vx_atS RX0 129 "java/lang/IndexOutOfBoundsException" ["java/lang/RuntimeException", "java/lang/Exception"]).filter goodWord ++ (vx_atS RX0 122 "java/lang/IllegalArgumentException" ["java/lang/RuntimeException", "java/lang/Exception"]).filter goodWord)
def wsL_takeOut_r1 : List Cond := [Cond.classLink RL 31 "java/lang/IndexOutOfBoundsException", Cond.classLink RL 15 "java/lang/IllegalStateException", Cond.methodLink RL 33 yX0_takeOut, Cond.instanceMethod yX0_takeOut, Cond.selects RX0 yX0_takeOut yX0_takeOut, Cond.initialized RX0, Cond.code yX0_takeOut cX0_takeOut 3 (some .int), Cond.fieldLink RX0 16 "ChargePark" "needOf" "[I", Cond.fieldLink RX0 84 "ChargePark" "servedCars" "I", Cond.methodLink RX0 65 yX0_requirePoint, Cond.instanceMethod yX0_requirePoint, Cond.selects RX0 yX0_requirePoint yX0_requirePoint, Cond.code yX0_requirePoint cX0_requirePoint 2 none, Cond.classLink RX0 125 "java/lang/IndexOutOfBoundsException", Cond.initialized "java/lang/IndexOutOfBoundsException", Cond.fieldLink RX0 55 "ChargePark" "pointCount" "I", Cond.methodLink RX0 81 yX0_requireCar, Cond.instanceMethod yX0_requireCar, Cond.selects RX0 yX0_requireCar yX0_requireCar, Cond.code yX0_requireCar cX0_requireCar 2 none, Cond.classLink RX0 58 "java/lang/IllegalStateException", Cond.initialized "java/lang/IllegalStateException", Cond.methodLink RX0 68 yX0_hasCar, Cond.instanceMethod yX0_hasCar]
def wsL_takeOut_r2 : List Cond := [Cond.selects RX0 yX0_hasCar yX0_hasCar, Cond.code yX0_hasCar cX0_hasCar 2 (some .boolean)]
def wsL_takeOut : List Cond := .codeWith yL_takeOut cL_takeOut 4 (some .int) [(0, 9, 12, 31), (0, 9, 15, 15)] :: ((wsL_takeOut_r1 ++ wsL_takeOut_r2) ++ wsX00 ++ (vx_atS RX0 129 "java/lang/IndexOutOfBoundsException" ["java/lang/RuntimeException", "java/lang/Exception"]).filter goodWord ++ (vx_atS RX0 62 "java/lang/IllegalStateException" ["java/lang/RuntimeException", "java/lang/Exception"]).filter goodWord)
def wsL_appetite_r1 : List Cond := [Cond.classLink RL 31 "java/lang/IndexOutOfBoundsException", Cond.classLink RL 13 "java/lang/IllegalArgumentException", Cond.classLink RL 15 "java/lang/IllegalStateException", Cond.methodLink RL 36 yX0_appetite, Cond.instanceMethod yX0_appetite, Cond.selects RX0 yX0_appetite yX0_appetite, Cond.initialized RX0, Cond.code yX0_appetite cX0_appetite 4 (some .int), Cond.fieldLink RX0 19 "ChargePark" "appetiteOf" "[I", Cond.methodLink RX0 65 yX0_requirePoint, Cond.instanceMethod yX0_requirePoint, Cond.selects RX0 yX0_requirePoint yX0_requirePoint, Cond.code yX0_requirePoint cX0_requirePoint 2 none, Cond.classLink RX0 125 "java/lang/IndexOutOfBoundsException", Cond.initialized "java/lang/IndexOutOfBoundsException", Cond.fieldLink RX0 55 "ChargePark" "pointCount" "I", Cond.methodLink RX0 51 yX0_requireWithin, Cond.static yX0_requireWithin, Cond.code yX0_requireWithin cX0_requireWithin 3 none, Cond.classLink RX0 118 "java/lang/IllegalArgumentException", Cond.initialized "java/lang/IllegalArgumentException", Cond.methodLink RX0 81 yX0_requireCar, Cond.instanceMethod yX0_requireCar, Cond.selects RX0 yX0_requireCar yX0_requireCar]
def wsL_appetite_r2 : List Cond := [Cond.code yX0_requireCar cX0_requireCar 2 none, Cond.classLink RX0 58 "java/lang/IllegalStateException", Cond.initialized "java/lang/IllegalStateException", Cond.methodLink RX0 68 yX0_hasCar, Cond.instanceMethod yX0_hasCar, Cond.selects RX0 yX0_hasCar yX0_hasCar, Cond.code yX0_hasCar cX0_hasCar 2 (some .boolean), Cond.fieldLink RX0 16 "ChargePark" "needOf" "[I"]
def wsL_appetite : List Cond := .codeWith yL_appetite cL_appetite 5 (some .int) [(0, 10, 13, 31), (0, 10, 17, 13), (0, 10, 21, 15)] :: ((wsL_appetite_r1 ++ wsL_appetite_r2) ++ wsX00 ++ (vx_atS RX0 129 "java/lang/IndexOutOfBoundsException" ["java/lang/RuntimeException", "java/lang/Exception"]).filter goodWord ++ (vx_atS RX0 122 "java/lang/IllegalArgumentException" ["java/lang/RuntimeException", "java/lang/Exception"]).filter goodWord ++ (vx_atS RX0 62 "java/lang/IllegalStateException" ["java/lang/RuntimeException", "java/lang/Exception"]).filter goodWord)
def wsL_stay_r1 : List Cond := [Cond.classLink RL 31 "java/lang/IndexOutOfBoundsException", Cond.classLink RL 13 "java/lang/IllegalArgumentException", Cond.classLink RL 15 "java/lang/IllegalStateException", Cond.methodLink RL 39 yX0_stay, Cond.instanceMethod yX0_stay, Cond.selects RX0 yX0_stay yX0_stay, Cond.initialized RX0, Cond.code yX0_stay cX0_stay 3 (some .int), Cond.fieldLink RX0 22 "ChargePark" "leavesAt" "[I", Cond.fieldLink RX0 74 "ChargePark" "now" "I", Cond.methodLink RX0 87 Lib.Math.max.name, Cond.static Lib.Math.max.name, Cond.initialized "java/lang/Math", Cond.code Lib.Math.max.name Lib.Math.max.code 2 (some .int), Cond.methodLink RX0 65 yX0_requirePoint, Cond.instanceMethod yX0_requirePoint, Cond.selects RX0 yX0_requirePoint yX0_requirePoint, Cond.code yX0_requirePoint cX0_requirePoint 2 none, Cond.classLink RX0 125 "java/lang/IndexOutOfBoundsException", Cond.initialized "java/lang/IndexOutOfBoundsException", Cond.fieldLink RX0 55 "ChargePark" "pointCount" "I", Cond.methodLink RX0 51 yX0_requireWithin, Cond.static yX0_requireWithin, Cond.code yX0_requireWithin cX0_requireWithin 3 none]
def wsL_stay_r2 : List Cond := [Cond.classLink RX0 118 "java/lang/IllegalArgumentException", Cond.initialized "java/lang/IllegalArgumentException", Cond.methodLink RX0 81 yX0_requireCar, Cond.instanceMethod yX0_requireCar, Cond.selects RX0 yX0_requireCar yX0_requireCar, Cond.code yX0_requireCar cX0_requireCar 2 none, Cond.classLink RX0 58 "java/lang/IllegalStateException", Cond.initialized "java/lang/IllegalStateException", Cond.methodLink RX0 68 yX0_hasCar, Cond.instanceMethod yX0_hasCar, Cond.selects RX0 yX0_hasCar yX0_hasCar, Cond.code yX0_hasCar cX0_hasCar 2 (some .boolean), Cond.fieldLink RX0 16 "ChargePark" "needOf" "[I", Cond.methodLink RX0 93 yX0_stepsLeftAt, Cond.instanceMethod yX0_stepsLeftAt, Cond.selects RX0 yX0_stepsLeftAt yX0_stepsLeftAt, Cond.code yX0_stepsLeftAt cX0_stepsLeftAt 2 (some .int)]
def wsL_stay : List Cond := .codeWith yL_stay cL_stay 5 (some .int) [(0, 10, 13, 31), (0, 10, 17, 13), (0, 10, 21, 15)] :: ((wsL_stay_r1 ++ wsL_stay_r2) ++ wsX00 ++ (vx_atS RX0 129 "java/lang/IndexOutOfBoundsException" ["java/lang/RuntimeException", "java/lang/Exception"]).filter goodWord ++ (vx_atS RX0 122 "java/lang/IllegalArgumentException" ["java/lang/RuntimeException", "java/lang/Exception"]).filter goodWord ++ (vx_atS RX0 62 "java/lang/IllegalStateException" ["java/lang/RuntimeException", "java/lang/Exception"]).filter goodWord)
def wsL_step_r1 : List Cond := [Cond.classLink RL 13 "java/lang/IllegalArgumentException", Cond.methodLink RL 42 yX0_step, Cond.instanceMethod yX0_step, Cond.selects RX0 yX0_step yX0_step, Cond.initialized RX0, Cond.code yX0_step cX0_step 4 (some .int), Cond.fieldLink RX0 96 "ChargePark" "takenUnits" "I", Cond.fieldLink RX0 74 "ChargePark" "now" "I", Cond.methodLink RX0 51 yX0_requireWithin, Cond.static yX0_requireWithin, Cond.code yX0_requireWithin cX0_requireWithin 3 none, Cond.classLink RX0 118 "java/lang/IllegalArgumentException", Cond.initialized "java/lang/IllegalArgumentException", Cond.methodLink RX0 99 yX0_shareCurrents, Cond.instanceMethod yX0_shareCurrents, Cond.selects RX0 yX0_shareCurrents yX0_shareCurrents, Cond.code yX0_shareCurrents cX0_shareCurrents 1 none, Cond.fieldLink RX0 44 "ChargePark" "ruleInUse" "I", Cond.methodLink RX0 147 yX0_startShares, Cond.instanceMethod yX0_startShares, Cond.selects RX0 yX0_startShares yX0_startShares, Cond.code yX0_startShares cX0_startShares 2 none, Cond.fieldLink RX0 55 "ChargePark" "pointCount" "I", Cond.fieldLink RX0 28 "ChargePark" "given" "[I"]
def wsL_step_r2 : List Cond := [Cond.fieldLink RX0 25 "ChargePark" "wanted" "[I", Cond.fieldLink RX0 34 "ChargePark" "loadOf" "[I", Cond.methodLink RX0 105 yX0_reachAt, Cond.instanceMethod yX0_reachAt, Cond.selects RX0 yX0_reachAt yX0_reachAt, Cond.code yX0_reachAt cX0_reachAt 3 (some .int), Cond.fieldLink RX0 16 "ChargePark" "needOf" "[I", Cond.methodLink RX0 132 Lib.Math.min.name, Cond.static Lib.Math.min.name, Cond.initialized "java/lang/Math", Cond.code Lib.Math.min.name Lib.Math.min.code 2 (some .int), Cond.methodLink RX0 144 yX0_isToBeGiven, Cond.instanceMethod yX0_isToBeGiven, Cond.selects RX0 yX0_isToBeGiven yX0_isToBeGiven, Cond.code yX0_isToBeGiven cX0_isToBeGiven 2 (some .boolean), Cond.fieldLink RX0 22 "ChargePark" "leavesAt" "[I", Cond.methodLink RX0 138 yX0_unitsPerAmpere, Cond.instanceMethod yX0_unitsPerAmpere, Cond.selects RX0 yX0_unitsPerAmpere yX0_unitsPerAmpere, Cond.code yX0_unitsPerAmpere cX0_unitsPerAmpere 2 (some .int), Cond.fieldLink RX0 9 "ChargePark" "phaseOf" "[I", Cond.methodLink RX0 141 yX0_dividedRoundedUp, Cond.static yX0_dividedRoundedUp, Cond.code yX0_dividedRoundedUp cX0_dividedRoundedUp 2 (some .int)]
def wsL_step_r3 : List Cond := [Cond.methodLink RX0 135 yX0_lesserOfGreatestAndAppetite, Cond.instanceMethod yX0_lesserOfGreatestAndAppetite, Cond.selects RX0 yX0_lesserOfGreatestAndAppetite yX0_lesserOfGreatestAndAppetite, Cond.code yX0_lesserOfGreatestAndAppetite cX0_lesserOfGreatestAndAppetite 2 (some .int), Cond.fieldLink RX0 13 "ChargePark" "greatestOf" "[I", Cond.fieldLink RX0 19 "ChargePark" "appetiteOf" "[I", Cond.methodLink RX0 150 yX0_shareFairly, Cond.instanceMethod yX0_shareFairly, Cond.selects RX0 yX0_shareFairly yX0_shareFairly, Cond.code yX0_shareFairly cX0_shareFairly 3 none, Cond.methodLink RX0 173 yX0_raiseAll, Cond.instanceMethod yX0_raiseAll, Cond.selects RX0 yX0_raiseAll yX0_raiseAll, Cond.code yX0_raiseAll cX0_raiseAll 3 (some .boolean), Cond.methodLink RX0 167 yX0_roomFor, Cond.instanceMethod yX0_roomFor, Cond.selects RX0 yX0_roomFor yX0_roomFor, Cond.code yX0_roomFor cX0_roomFor 4 (some .int), Cond.fieldLink RX0 37 "ChargePark" "fuseOf" "[I", Cond.methodLink RX0 159 yX0_isAt, Cond.instanceMethod yX0_isAt, Cond.selects RX0 yX0_isAt yX0_isAt, Cond.code yX0_isAt cX0_isAt 3 (some .boolean), Cond.methodLink RX0 170 yX0_give]
def wsL_step_r4 : List Cond := [Cond.instanceMethod yX0_give, Cond.selects RX0 yX0_give yX0_give, Cond.code yX0_give cX0_give 4 none, Cond.methodLink RX0 153 yX0_shareByLaxity, Cond.instanceMethod yX0_shareByLaxity, Cond.selects RX0 yX0_shareByLaxity yX0_shareByLaxity, Cond.code yX0_shareByLaxity cX0_shareByLaxity 4 none, Cond.fieldLink RX0 31 "ChargePark" "turns" "[I", Cond.methodLink RX0 163 yX0_putIntoTurns, Cond.instanceMethod yX0_putIntoTurns, Cond.selects RX0 yX0_putIntoTurns yX0_putIntoTurns, Cond.code yX0_putIntoTurns cX0_putIntoTurns 5 none, Cond.methodLink RX0 77 yX0_laxityAt, Cond.instanceMethod yX0_laxityAt, Cond.selects RX0 yX0_laxityAt yX0_laxityAt, Cond.code yX0_laxityAt cX0_laxityAt 3 (some .int), Cond.methodLink RX0 93 yX0_stepsLeftAt, Cond.instanceMethod yX0_stepsLeftAt, Cond.selects RX0 yX0_stepsLeftAt yX0_stepsLeftAt, Cond.code yX0_stepsLeftAt cX0_stepsLeftAt 2 (some .int), Cond.methodLink RX0 87 Lib.Math.max.name, Cond.static Lib.Math.max.name, Cond.code Lib.Math.max.name Lib.Math.max.code 2 (some .int), Cond.methodLink RX0 156 yX0_keepBalance]
def wsL_step_r5 : List Cond := [Cond.instanceMethod yX0_keepBalance, Cond.selects RX0 yX0_keepBalance yX0_keepBalance, Cond.code yX0_keepBalance cX0_keepBalance 3 none, Cond.fieldLink RX0 40 "ChargePark" "greatestDifference" "I", Cond.methodLink RX0 108 yX0_differenceOfLoads, Cond.instanceMethod yX0_differenceOfLoads, Cond.selects RX0 yX0_differenceOfLoads yX0_differenceOfLoads, Cond.code yX0_differenceOfLoads cX0_differenceOfLoads 3 (some .int), Cond.methodLink RX0 177 yX0_phaseOfGreatestLoad, Cond.instanceMethod yX0_phaseOfGreatestLoad, Cond.selects RX0 yX0_phaseOfGreatestLoad yX0_phaseOfGreatestLoad, Cond.code yX0_phaseOfGreatestLoad cX0_phaseOfGreatestLoad 3 (some .int), Cond.methodLink RX0 180 yX0_mostGivenAloneAt, Cond.instanceMethod yX0_mostGivenAloneAt, Cond.selects RX0 yX0_mostGivenAloneAt yX0_mostGivenAloneAt, Cond.code yX0_mostGivenAloneAt cX0_mostGivenAloneAt 5 (some .int), Cond.methodLink RX0 102 yX0_takeWhatIsGiven, Cond.instanceMethod yX0_takeWhatIsGiven, Cond.selects RX0 yX0_takeWhatIsGiven yX0_takeWhatIsGiven, Cond.code yX0_takeWhatIsGiven cX0_takeWhatIsGiven 3 none]
def wsL_step : List Cond := .codeWith yL_step cL_step 4 (some .int) [(0, 9, 12, 13)] :: ((wsL_step_r1 ++ (wsL_step_r2 ++ (wsL_step_r3 ++ (wsL_step_r4 ++ wsL_step_r5)))) ++ wsX00 ++ (vx_atS RX0 122 "java/lang/IllegalArgumentException" ["java/lang/RuntimeException", "java/lang/Exception"]).filter goodWord)
def wsL_need : List Cond := .codeWith yL_need cL_need 4 (some .int) [(0, 9, 12, 31)] :: ([.classLink RL 31 "java/lang/IndexOutOfBoundsException", .methodLink RL 45 yX0_need, .instanceMethod yX0_need, .selects RX0 yX0_need yX0_need, .initialized RX0, .code yX0_need cX0_need 2 (some .int), .fieldLink RX0 16 "ChargePark" "needOf" "[I", .methodLink RX0 65 yX0_requirePoint, .instanceMethod yX0_requirePoint, .selects RX0 yX0_requirePoint yX0_requirePoint, .code yX0_requirePoint cX0_requirePoint 2 none, .classLink RX0 125 "java/lang/IndexOutOfBoundsException", .initialized "java/lang/IndexOutOfBoundsException", .fieldLink RX0 55 "ChargePark" "pointCount" "I"] ++ wsX00 ++ (vx_atS RX0 129 "java/lang/IndexOutOfBoundsException" ["java/lang/RuntimeException", "java/lang/Exception"]).filter goodWord)
def wsL_left_r1 : List Cond := [Cond.classLink RL 31 "java/lang/IndexOutOfBoundsException", Cond.methodLink RL 48 yX0_left, Cond.instanceMethod yX0_left, Cond.selects RX0 yX0_left yX0_left, Cond.initialized RX0, Cond.code yX0_left cX0_left 2 (some .int), Cond.methodLink RX0 65 yX0_requirePoint, Cond.instanceMethod yX0_requirePoint, Cond.selects RX0 yX0_requirePoint yX0_requirePoint, Cond.code yX0_requirePoint cX0_requirePoint 2 none, Cond.classLink RX0 125 "java/lang/IndexOutOfBoundsException", Cond.initialized "java/lang/IndexOutOfBoundsException", Cond.fieldLink RX0 55 "ChargePark" "pointCount" "I", Cond.methodLink RX0 68 yX0_hasCar, Cond.instanceMethod yX0_hasCar, Cond.selects RX0 yX0_hasCar yX0_hasCar, Cond.code yX0_hasCar cX0_hasCar 2 (some .boolean), Cond.fieldLink RX0 16 "ChargePark" "needOf" "[I", Cond.methodLink RX0 93 yX0_stepsLeftAt, Cond.instanceMethod yX0_stepsLeftAt, Cond.selects RX0 yX0_stepsLeftAt yX0_stepsLeftAt, Cond.code yX0_stepsLeftAt cX0_stepsLeftAt 2 (some .int), Cond.fieldLink RX0 22 "ChargePark" "leavesAt" "[I", Cond.fieldLink RX0 74 "ChargePark" "now" "I"]
def wsL_left_r2 : List Cond := [Cond.methodLink RX0 87 Lib.Math.max.name, Cond.static Lib.Math.max.name, Cond.initialized "java/lang/Math", Cond.code Lib.Math.max.name Lib.Math.max.code 2 (some .int)]
def wsL_left : List Cond := .codeWith yL_left cL_left 4 (some .int) [(0, 9, 12, 31)] :: ((wsL_left_r1 ++ wsL_left_r2) ++ wsX00 ++ (vx_atS RX0 129 "java/lang/IndexOutOfBoundsException" ["java/lang/RuntimeException", "java/lang/Exception"]).filter goodWord)
def wsL_laxity_r1 : List Cond := [Cond.classLink RL 31 "java/lang/IndexOutOfBoundsException", Cond.classLink RL 15 "java/lang/IllegalStateException", Cond.methodLink RL 51 yX0_laxity, Cond.instanceMethod yX0_laxity, Cond.selects RX0 yX0_laxity yX0_laxity, Cond.initialized RX0, Cond.code yX0_laxity cX0_laxity 2 (some .int), Cond.methodLink RX0 65 yX0_requirePoint, Cond.instanceMethod yX0_requirePoint, Cond.selects RX0 yX0_requirePoint yX0_requirePoint, Cond.code yX0_requirePoint cX0_requirePoint 2 none, Cond.classLink RX0 125 "java/lang/IndexOutOfBoundsException", Cond.initialized "java/lang/IndexOutOfBoundsException", Cond.fieldLink RX0 55 "ChargePark" "pointCount" "I", Cond.methodLink RX0 81 yX0_requireCar, Cond.instanceMethod yX0_requireCar, Cond.selects RX0 yX0_requireCar yX0_requireCar, Cond.code yX0_requireCar cX0_requireCar 2 none, Cond.classLink RX0 58 "java/lang/IllegalStateException", Cond.initialized "java/lang/IllegalStateException", Cond.methodLink RX0 68 yX0_hasCar, Cond.instanceMethod yX0_hasCar, Cond.selects RX0 yX0_hasCar yX0_hasCar, Cond.code yX0_hasCar cX0_hasCar 2 (some .boolean)]
def wsL_laxity_r2 : List Cond := [Cond.fieldLink RX0 16 "ChargePark" "needOf" "[I", Cond.methodLink RX0 77 yX0_laxityAt, Cond.instanceMethod yX0_laxityAt, Cond.selects RX0 yX0_laxityAt yX0_laxityAt, Cond.code yX0_laxityAt cX0_laxityAt 3 (some .int), Cond.methodLink RX0 135 yX0_lesserOfGreatestAndAppetite, Cond.instanceMethod yX0_lesserOfGreatestAndAppetite, Cond.selects RX0 yX0_lesserOfGreatestAndAppetite yX0_lesserOfGreatestAndAppetite, Cond.code yX0_lesserOfGreatestAndAppetite cX0_lesserOfGreatestAndAppetite 2 (some .int), Cond.fieldLink RX0 13 "ChargePark" "greatestOf" "[I", Cond.fieldLink RX0 19 "ChargePark" "appetiteOf" "[I", Cond.methodLink RX0 132 Lib.Math.min.name, Cond.static Lib.Math.min.name, Cond.initialized "java/lang/Math", Cond.code Lib.Math.min.name Lib.Math.min.code 2 (some .int), Cond.methodLink RX0 138 yX0_unitsPerAmpere, Cond.instanceMethod yX0_unitsPerAmpere, Cond.selects RX0 yX0_unitsPerAmpere yX0_unitsPerAmpere, Cond.code yX0_unitsPerAmpere cX0_unitsPerAmpere 2 (some .int), Cond.fieldLink RX0 9 "ChargePark" "phaseOf" "[I", Cond.methodLink RX0 93 yX0_stepsLeftAt, Cond.instanceMethod yX0_stepsLeftAt, Cond.selects RX0 yX0_stepsLeftAt yX0_stepsLeftAt, Cond.code yX0_stepsLeftAt cX0_stepsLeftAt 2 (some .int)]
def wsL_laxity_r3 : List Cond := [Cond.fieldLink RX0 22 "ChargePark" "leavesAt" "[I", Cond.fieldLink RX0 74 "ChargePark" "now" "I", Cond.methodLink RX0 87 Lib.Math.max.name, Cond.static Lib.Math.max.name, Cond.code Lib.Math.max.name Lib.Math.max.code 2 (some .int), Cond.methodLink RX0 141 yX0_dividedRoundedUp, Cond.static yX0_dividedRoundedUp, Cond.code yX0_dividedRoundedUp cX0_dividedRoundedUp 2 (some .int)]
def wsL_laxity : List Cond := .codeWith yL_laxity cL_laxity 4 (some .int) [(0, 9, 12, 31), (0, 9, 15, 15)] :: ((wsL_laxity_r1 ++ (wsL_laxity_r2 ++ wsL_laxity_r3)) ++ wsX00 ++ (vx_atS RX0 129 "java/lang/IndexOutOfBoundsException" ["java/lang/RuntimeException", "java/lang/Exception"]).filter goodWord ++ (vx_atS RX0 62 "java/lang/IllegalStateException" ["java/lang/RuntimeException", "java/lang/Exception"]).filter goodWord)
def wsL_reach_r1 : List Cond := [Cond.classLink RL 31 "java/lang/IndexOutOfBoundsException", Cond.methodLink RL 54 yX0_reach, Cond.instanceMethod yX0_reach, Cond.selects RX0 yX0_reach yX0_reach, Cond.initialized RX0, Cond.code yX0_reach cX0_reach 2 (some .int), Cond.methodLink RX0 65 yX0_requirePoint, Cond.instanceMethod yX0_requirePoint, Cond.selects RX0 yX0_requirePoint yX0_requirePoint, Cond.code yX0_requirePoint cX0_requirePoint 2 none, Cond.classLink RX0 125 "java/lang/IndexOutOfBoundsException", Cond.initialized "java/lang/IndexOutOfBoundsException", Cond.fieldLink RX0 55 "ChargePark" "pointCount" "I", Cond.methodLink RX0 105 yX0_reachAt, Cond.instanceMethod yX0_reachAt, Cond.selects RX0 yX0_reachAt yX0_reachAt, Cond.code yX0_reachAt cX0_reachAt 3 (some .int), Cond.fieldLink RX0 16 "ChargePark" "needOf" "[I", Cond.methodLink RX0 132 Lib.Math.min.name, Cond.static Lib.Math.min.name, Cond.initialized "java/lang/Math", Cond.code Lib.Math.min.name Lib.Math.min.code 2 (some .int), Cond.methodLink RX0 144 yX0_isToBeGiven, Cond.instanceMethod yX0_isToBeGiven]
def wsL_reach_r2 : List Cond := [Cond.selects RX0 yX0_isToBeGiven yX0_isToBeGiven, Cond.code yX0_isToBeGiven cX0_isToBeGiven 2 (some .boolean), Cond.fieldLink RX0 22 "ChargePark" "leavesAt" "[I", Cond.fieldLink RX0 74 "ChargePark" "now" "I", Cond.methodLink RX0 138 yX0_unitsPerAmpere, Cond.instanceMethod yX0_unitsPerAmpere, Cond.selects RX0 yX0_unitsPerAmpere yX0_unitsPerAmpere, Cond.code yX0_unitsPerAmpere cX0_unitsPerAmpere 2 (some .int), Cond.fieldLink RX0 9 "ChargePark" "phaseOf" "[I", Cond.methodLink RX0 141 yX0_dividedRoundedUp, Cond.static yX0_dividedRoundedUp, Cond.code yX0_dividedRoundedUp cX0_dividedRoundedUp 2 (some .int), Cond.methodLink RX0 135 yX0_lesserOfGreatestAndAppetite, Cond.instanceMethod yX0_lesserOfGreatestAndAppetite, Cond.selects RX0 yX0_lesserOfGreatestAndAppetite yX0_lesserOfGreatestAndAppetite, Cond.code yX0_lesserOfGreatestAndAppetite cX0_lesserOfGreatestAndAppetite 2 (some .int), Cond.fieldLink RX0 13 "ChargePark" "greatestOf" "[I", Cond.fieldLink RX0 19 "ChargePark" "appetiteOf" "[I"]
def wsL_reach : List Cond := .codeWith yL_reach cL_reach 4 (some .int) [(0, 9, 12, 31)] :: ((wsL_reach_r1 ++ wsL_reach_r2) ++ wsX00 ++ (vx_atS RX0 129 "java/lang/IndexOutOfBoundsException" ["java/lang/RuntimeException", "java/lang/Exception"]).filter goodWord)
def wsL_current_r1 : List Cond := [Cond.classLink RL 31 "java/lang/IndexOutOfBoundsException", Cond.methodLink RL 57 yX0_current, Cond.instanceMethod yX0_current, Cond.selects RX0 yX0_current yX0_current, Cond.initialized RX0, Cond.code yX0_current cX0_current 2 (some .int), Cond.fieldLink RX0 28 "ChargePark" "given" "[I", Cond.methodLink RX0 65 yX0_requirePoint, Cond.instanceMethod yX0_requirePoint, Cond.selects RX0 yX0_requirePoint yX0_requirePoint, Cond.code yX0_requirePoint cX0_requirePoint 2 none, Cond.classLink RX0 125 "java/lang/IndexOutOfBoundsException", Cond.initialized "java/lang/IndexOutOfBoundsException", Cond.fieldLink RX0 55 "ChargePark" "pointCount" "I", Cond.methodLink RX0 99 yX0_shareCurrents, Cond.instanceMethod yX0_shareCurrents, Cond.selects RX0 yX0_shareCurrents yX0_shareCurrents, Cond.code yX0_shareCurrents cX0_shareCurrents 1 none, Cond.fieldLink RX0 44 "ChargePark" "ruleInUse" "I", Cond.methodLink RX0 147 yX0_startShares, Cond.instanceMethod yX0_startShares, Cond.selects RX0 yX0_startShares yX0_startShares, Cond.code yX0_startShares cX0_startShares 2 none, Cond.fieldLink RX0 25 "ChargePark" "wanted" "[I"]
def wsL_current_r2 : List Cond := [Cond.fieldLink RX0 34 "ChargePark" "loadOf" "[I", Cond.methodLink RX0 105 yX0_reachAt, Cond.instanceMethod yX0_reachAt, Cond.selects RX0 yX0_reachAt yX0_reachAt, Cond.code yX0_reachAt cX0_reachAt 3 (some .int), Cond.fieldLink RX0 16 "ChargePark" "needOf" "[I", Cond.methodLink RX0 132 Lib.Math.min.name, Cond.static Lib.Math.min.name, Cond.initialized "java/lang/Math", Cond.code Lib.Math.min.name Lib.Math.min.code 2 (some .int), Cond.methodLink RX0 144 yX0_isToBeGiven, Cond.instanceMethod yX0_isToBeGiven, Cond.selects RX0 yX0_isToBeGiven yX0_isToBeGiven, Cond.code yX0_isToBeGiven cX0_isToBeGiven 2 (some .boolean), Cond.fieldLink RX0 22 "ChargePark" "leavesAt" "[I", Cond.fieldLink RX0 74 "ChargePark" "now" "I", Cond.methodLink RX0 138 yX0_unitsPerAmpere, Cond.instanceMethod yX0_unitsPerAmpere, Cond.selects RX0 yX0_unitsPerAmpere yX0_unitsPerAmpere, Cond.code yX0_unitsPerAmpere cX0_unitsPerAmpere 2 (some .int), Cond.fieldLink RX0 9 "ChargePark" "phaseOf" "[I", Cond.methodLink RX0 141 yX0_dividedRoundedUp, Cond.static yX0_dividedRoundedUp, Cond.code yX0_dividedRoundedUp cX0_dividedRoundedUp 2 (some .int)]
def wsL_current_r3 : List Cond := [Cond.methodLink RX0 135 yX0_lesserOfGreatestAndAppetite, Cond.instanceMethod yX0_lesserOfGreatestAndAppetite, Cond.selects RX0 yX0_lesserOfGreatestAndAppetite yX0_lesserOfGreatestAndAppetite, Cond.code yX0_lesserOfGreatestAndAppetite cX0_lesserOfGreatestAndAppetite 2 (some .int), Cond.fieldLink RX0 13 "ChargePark" "greatestOf" "[I", Cond.fieldLink RX0 19 "ChargePark" "appetiteOf" "[I", Cond.methodLink RX0 150 yX0_shareFairly, Cond.instanceMethod yX0_shareFairly, Cond.selects RX0 yX0_shareFairly yX0_shareFairly, Cond.code yX0_shareFairly cX0_shareFairly 3 none, Cond.methodLink RX0 173 yX0_raiseAll, Cond.instanceMethod yX0_raiseAll, Cond.selects RX0 yX0_raiseAll yX0_raiseAll, Cond.code yX0_raiseAll cX0_raiseAll 3 (some .boolean), Cond.methodLink RX0 167 yX0_roomFor, Cond.instanceMethod yX0_roomFor, Cond.selects RX0 yX0_roomFor yX0_roomFor, Cond.code yX0_roomFor cX0_roomFor 4 (some .int), Cond.fieldLink RX0 37 "ChargePark" "fuseOf" "[I", Cond.methodLink RX0 159 yX0_isAt, Cond.instanceMethod yX0_isAt, Cond.selects RX0 yX0_isAt yX0_isAt, Cond.code yX0_isAt cX0_isAt 3 (some .boolean), Cond.methodLink RX0 170 yX0_give]
def wsL_current_r4 : List Cond := [Cond.instanceMethod yX0_give, Cond.selects RX0 yX0_give yX0_give, Cond.code yX0_give cX0_give 4 none, Cond.methodLink RX0 153 yX0_shareByLaxity, Cond.instanceMethod yX0_shareByLaxity, Cond.selects RX0 yX0_shareByLaxity yX0_shareByLaxity, Cond.code yX0_shareByLaxity cX0_shareByLaxity 4 none, Cond.fieldLink RX0 31 "ChargePark" "turns" "[I", Cond.methodLink RX0 163 yX0_putIntoTurns, Cond.instanceMethod yX0_putIntoTurns, Cond.selects RX0 yX0_putIntoTurns yX0_putIntoTurns, Cond.code yX0_putIntoTurns cX0_putIntoTurns 5 none, Cond.methodLink RX0 77 yX0_laxityAt, Cond.instanceMethod yX0_laxityAt, Cond.selects RX0 yX0_laxityAt yX0_laxityAt, Cond.code yX0_laxityAt cX0_laxityAt 3 (some .int), Cond.methodLink RX0 93 yX0_stepsLeftAt, Cond.instanceMethod yX0_stepsLeftAt, Cond.selects RX0 yX0_stepsLeftAt yX0_stepsLeftAt, Cond.code yX0_stepsLeftAt cX0_stepsLeftAt 2 (some .int), Cond.methodLink RX0 87 Lib.Math.max.name, Cond.static Lib.Math.max.name, Cond.code Lib.Math.max.name Lib.Math.max.code 2 (some .int), Cond.methodLink RX0 156 yX0_keepBalance]
def wsL_current_r5 : List Cond := [Cond.instanceMethod yX0_keepBalance, Cond.selects RX0 yX0_keepBalance yX0_keepBalance, Cond.code yX0_keepBalance cX0_keepBalance 3 none, Cond.fieldLink RX0 40 "ChargePark" "greatestDifference" "I", Cond.methodLink RX0 108 yX0_differenceOfLoads, Cond.instanceMethod yX0_differenceOfLoads, Cond.selects RX0 yX0_differenceOfLoads yX0_differenceOfLoads, Cond.code yX0_differenceOfLoads cX0_differenceOfLoads 3 (some .int), Cond.methodLink RX0 177 yX0_phaseOfGreatestLoad, Cond.instanceMethod yX0_phaseOfGreatestLoad, Cond.selects RX0 yX0_phaseOfGreatestLoad yX0_phaseOfGreatestLoad, Cond.code yX0_phaseOfGreatestLoad cX0_phaseOfGreatestLoad 3 (some .int), Cond.methodLink RX0 180 yX0_mostGivenAloneAt, Cond.instanceMethod yX0_mostGivenAloneAt, Cond.selects RX0 yX0_mostGivenAloneAt yX0_mostGivenAloneAt, Cond.code yX0_mostGivenAloneAt cX0_mostGivenAloneAt 5 (some .int)]
def wsL_current : List Cond := .codeWith yL_current cL_current 4 (some .int) [(0, 9, 12, 31)] :: ((wsL_current_r1 ++ (wsL_current_r2 ++ (wsL_current_r3 ++ (wsL_current_r4 ++ wsL_current_r5)))) ++ wsX00 ++ (vx_atS RX0 129 "java/lang/IndexOutOfBoundsException" ["java/lang/RuntimeException", "java/lang/Exception"]).filter goodWord)
def wsL_load_r1 : List Cond := [Cond.classLink RL 13 "java/lang/IllegalArgumentException", Cond.methodLink RL 60 yX0_load, Cond.instanceMethod yX0_load, Cond.selects RX0 yX0_load yX0_load, Cond.initialized RX0, Cond.code yX0_load cX0_load 2 (some .int), Cond.fieldLink RX0 34 "ChargePark" "loadOf" "[I", Cond.methodLink RX0 47 yX0_requirePhase, Cond.static yX0_requirePhase, Cond.code yX0_requirePhase cX0_requirePhase 1 none, Cond.classLink RX0 118 "java/lang/IllegalArgumentException", Cond.initialized "java/lang/IllegalArgumentException", Cond.methodLink RX0 99 yX0_shareCurrents, Cond.instanceMethod yX0_shareCurrents, Cond.selects RX0 yX0_shareCurrents yX0_shareCurrents, Cond.code yX0_shareCurrents cX0_shareCurrents 1 none, Cond.fieldLink RX0 44 "ChargePark" "ruleInUse" "I", Cond.methodLink RX0 147 yX0_startShares, Cond.instanceMethod yX0_startShares, Cond.selects RX0 yX0_startShares yX0_startShares, Cond.code yX0_startShares cX0_startShares 2 none, Cond.fieldLink RX0 55 "ChargePark" "pointCount" "I", Cond.fieldLink RX0 28 "ChargePark" "given" "[I", Cond.fieldLink RX0 25 "ChargePark" "wanted" "[I"]
def wsL_load_r2 : List Cond := [Cond.methodLink RX0 105 yX0_reachAt, Cond.instanceMethod yX0_reachAt, Cond.selects RX0 yX0_reachAt yX0_reachAt, Cond.code yX0_reachAt cX0_reachAt 3 (some .int), Cond.fieldLink RX0 16 "ChargePark" "needOf" "[I", Cond.methodLink RX0 132 Lib.Math.min.name, Cond.static Lib.Math.min.name, Cond.initialized "java/lang/Math", Cond.code Lib.Math.min.name Lib.Math.min.code 2 (some .int), Cond.methodLink RX0 144 yX0_isToBeGiven, Cond.instanceMethod yX0_isToBeGiven, Cond.selects RX0 yX0_isToBeGiven yX0_isToBeGiven, Cond.code yX0_isToBeGiven cX0_isToBeGiven 2 (some .boolean), Cond.fieldLink RX0 22 "ChargePark" "leavesAt" "[I", Cond.fieldLink RX0 74 "ChargePark" "now" "I", Cond.methodLink RX0 138 yX0_unitsPerAmpere, Cond.instanceMethod yX0_unitsPerAmpere, Cond.selects RX0 yX0_unitsPerAmpere yX0_unitsPerAmpere, Cond.code yX0_unitsPerAmpere cX0_unitsPerAmpere 2 (some .int), Cond.fieldLink RX0 9 "ChargePark" "phaseOf" "[I", Cond.methodLink RX0 141 yX0_dividedRoundedUp, Cond.static yX0_dividedRoundedUp, Cond.code yX0_dividedRoundedUp cX0_dividedRoundedUp 2 (some .int), Cond.methodLink RX0 135 yX0_lesserOfGreatestAndAppetite]
def wsL_load_r3 : List Cond := [Cond.instanceMethod yX0_lesserOfGreatestAndAppetite, Cond.selects RX0 yX0_lesserOfGreatestAndAppetite yX0_lesserOfGreatestAndAppetite, Cond.code yX0_lesserOfGreatestAndAppetite cX0_lesserOfGreatestAndAppetite 2 (some .int), Cond.fieldLink RX0 13 "ChargePark" "greatestOf" "[I", Cond.fieldLink RX0 19 "ChargePark" "appetiteOf" "[I", Cond.methodLink RX0 150 yX0_shareFairly, Cond.instanceMethod yX0_shareFairly, Cond.selects RX0 yX0_shareFairly yX0_shareFairly, Cond.code yX0_shareFairly cX0_shareFairly 3 none, Cond.methodLink RX0 173 yX0_raiseAll, Cond.instanceMethod yX0_raiseAll, Cond.selects RX0 yX0_raiseAll yX0_raiseAll, Cond.code yX0_raiseAll cX0_raiseAll 3 (some .boolean), Cond.methodLink RX0 167 yX0_roomFor, Cond.instanceMethod yX0_roomFor, Cond.selects RX0 yX0_roomFor yX0_roomFor, Cond.code yX0_roomFor cX0_roomFor 4 (some .int), Cond.fieldLink RX0 37 "ChargePark" "fuseOf" "[I", Cond.methodLink RX0 159 yX0_isAt, Cond.instanceMethod yX0_isAt, Cond.selects RX0 yX0_isAt yX0_isAt, Cond.code yX0_isAt cX0_isAt 3 (some .boolean), Cond.methodLink RX0 170 yX0_give, Cond.instanceMethod yX0_give]
def wsL_load_r4 : List Cond := [Cond.selects RX0 yX0_give yX0_give, Cond.code yX0_give cX0_give 4 none, Cond.methodLink RX0 153 yX0_shareByLaxity, Cond.instanceMethod yX0_shareByLaxity, Cond.selects RX0 yX0_shareByLaxity yX0_shareByLaxity, Cond.code yX0_shareByLaxity cX0_shareByLaxity 4 none, Cond.fieldLink RX0 31 "ChargePark" "turns" "[I", Cond.methodLink RX0 163 yX0_putIntoTurns, Cond.instanceMethod yX0_putIntoTurns, Cond.selects RX0 yX0_putIntoTurns yX0_putIntoTurns, Cond.code yX0_putIntoTurns cX0_putIntoTurns 5 none, Cond.methodLink RX0 77 yX0_laxityAt, Cond.instanceMethod yX0_laxityAt, Cond.selects RX0 yX0_laxityAt yX0_laxityAt, Cond.code yX0_laxityAt cX0_laxityAt 3 (some .int), Cond.methodLink RX0 93 yX0_stepsLeftAt, Cond.instanceMethod yX0_stepsLeftAt, Cond.selects RX0 yX0_stepsLeftAt yX0_stepsLeftAt, Cond.code yX0_stepsLeftAt cX0_stepsLeftAt 2 (some .int), Cond.methodLink RX0 87 Lib.Math.max.name, Cond.static Lib.Math.max.name, Cond.code Lib.Math.max.name Lib.Math.max.code 2 (some .int), Cond.methodLink RX0 156 yX0_keepBalance, Cond.instanceMethod yX0_keepBalance]
def wsL_load_r5 : List Cond := [Cond.selects RX0 yX0_keepBalance yX0_keepBalance, Cond.code yX0_keepBalance cX0_keepBalance 3 none, Cond.fieldLink RX0 40 "ChargePark" "greatestDifference" "I", Cond.methodLink RX0 108 yX0_differenceOfLoads, Cond.instanceMethod yX0_differenceOfLoads, Cond.selects RX0 yX0_differenceOfLoads yX0_differenceOfLoads, Cond.code yX0_differenceOfLoads cX0_differenceOfLoads 3 (some .int), Cond.methodLink RX0 177 yX0_phaseOfGreatestLoad, Cond.instanceMethod yX0_phaseOfGreatestLoad, Cond.selects RX0 yX0_phaseOfGreatestLoad yX0_phaseOfGreatestLoad, Cond.code yX0_phaseOfGreatestLoad cX0_phaseOfGreatestLoad 3 (some .int), Cond.methodLink RX0 180 yX0_mostGivenAloneAt, Cond.instanceMethod yX0_mostGivenAloneAt, Cond.selects RX0 yX0_mostGivenAloneAt yX0_mostGivenAloneAt, Cond.code yX0_mostGivenAloneAt cX0_mostGivenAloneAt 5 (some .int)]
def wsL_load : List Cond := .codeWith yL_load cL_load 4 (some .int) [(0, 9, 12, 13)] :: ((wsL_load_r1 ++ (wsL_load_r2 ++ (wsL_load_r3 ++ (wsL_load_r4 ++ wsL_load_r5)))) ++ wsX00 ++ (vx_atS RX0 122 "java/lang/IllegalArgumentException" ["java/lang/RuntimeException", "java/lang/Exception"]).filter goodWord)
def wsL_fairLevel_r1 : List Cond := [Cond.classLink RL 13 "java/lang/IllegalArgumentException", Cond.methodLink RL 63 yX0_fairLevel, Cond.instanceMethod yX0_fairLevel, Cond.selects RX0 yX0_fairLevel yX0_fairLevel, Cond.initialized RX0, Cond.code yX0_fairLevel cX0_fairLevel 6 (some .int), Cond.fieldLink RX0 37 "ChargePark" "fuseOf" "[I", Cond.methodLink RX0 47 yX0_requirePhase, Cond.static yX0_requirePhase, Cond.code yX0_requirePhase cX0_requirePhase 1 none, Cond.classLink RX0 118 "java/lang/IllegalArgumentException", Cond.initialized "java/lang/IllegalArgumentException", Cond.methodLink RX0 99 yX0_shareCurrents, Cond.instanceMethod yX0_shareCurrents, Cond.selects RX0 yX0_shareCurrents yX0_shareCurrents, Cond.code yX0_shareCurrents cX0_shareCurrents 1 none, Cond.fieldLink RX0 44 "ChargePark" "ruleInUse" "I", Cond.methodLink RX0 147 yX0_startShares, Cond.instanceMethod yX0_startShares, Cond.selects RX0 yX0_startShares yX0_startShares, Cond.code yX0_startShares cX0_startShares 2 none, Cond.fieldLink RX0 55 "ChargePark" "pointCount" "I", Cond.fieldLink RX0 28 "ChargePark" "given" "[I", Cond.fieldLink RX0 25 "ChargePark" "wanted" "[I"]
def wsL_fairLevel_r2 : List Cond := [Cond.fieldLink RX0 34 "ChargePark" "loadOf" "[I", Cond.methodLink RX0 105 yX0_reachAt, Cond.instanceMethod yX0_reachAt, Cond.selects RX0 yX0_reachAt yX0_reachAt, Cond.code yX0_reachAt cX0_reachAt 3 (some .int), Cond.fieldLink RX0 16 "ChargePark" "needOf" "[I", Cond.methodLink RX0 132 Lib.Math.min.name, Cond.static Lib.Math.min.name, Cond.initialized "java/lang/Math", Cond.code Lib.Math.min.name Lib.Math.min.code 2 (some .int), Cond.methodLink RX0 144 yX0_isToBeGiven, Cond.instanceMethod yX0_isToBeGiven, Cond.selects RX0 yX0_isToBeGiven yX0_isToBeGiven, Cond.code yX0_isToBeGiven cX0_isToBeGiven 2 (some .boolean), Cond.fieldLink RX0 22 "ChargePark" "leavesAt" "[I", Cond.fieldLink RX0 74 "ChargePark" "now" "I", Cond.methodLink RX0 138 yX0_unitsPerAmpere, Cond.instanceMethod yX0_unitsPerAmpere, Cond.selects RX0 yX0_unitsPerAmpere yX0_unitsPerAmpere, Cond.code yX0_unitsPerAmpere cX0_unitsPerAmpere 2 (some .int), Cond.fieldLink RX0 9 "ChargePark" "phaseOf" "[I", Cond.methodLink RX0 141 yX0_dividedRoundedUp, Cond.static yX0_dividedRoundedUp, Cond.code yX0_dividedRoundedUp cX0_dividedRoundedUp 2 (some .int)]
def wsL_fairLevel_r3 : List Cond := [Cond.methodLink RX0 135 yX0_lesserOfGreatestAndAppetite, Cond.instanceMethod yX0_lesserOfGreatestAndAppetite, Cond.selects RX0 yX0_lesserOfGreatestAndAppetite yX0_lesserOfGreatestAndAppetite, Cond.code yX0_lesserOfGreatestAndAppetite cX0_lesserOfGreatestAndAppetite 2 (some .int), Cond.fieldLink RX0 13 "ChargePark" "greatestOf" "[I", Cond.fieldLink RX0 19 "ChargePark" "appetiteOf" "[I", Cond.methodLink RX0 150 yX0_shareFairly, Cond.instanceMethod yX0_shareFairly, Cond.selects RX0 yX0_shareFairly yX0_shareFairly, Cond.code yX0_shareFairly cX0_shareFairly 3 none, Cond.methodLink RX0 173 yX0_raiseAll, Cond.instanceMethod yX0_raiseAll, Cond.selects RX0 yX0_raiseAll yX0_raiseAll, Cond.code yX0_raiseAll cX0_raiseAll 3 (some .boolean), Cond.methodLink RX0 167 yX0_roomFor, Cond.instanceMethod yX0_roomFor, Cond.selects RX0 yX0_roomFor yX0_roomFor, Cond.code yX0_roomFor cX0_roomFor 4 (some .int), Cond.methodLink RX0 159 yX0_isAt, Cond.instanceMethod yX0_isAt, Cond.selects RX0 yX0_isAt yX0_isAt, Cond.code yX0_isAt cX0_isAt 3 (some .boolean), Cond.methodLink RX0 170 yX0_give, Cond.instanceMethod yX0_give]
def wsL_fairLevel_r4 : List Cond := [Cond.selects RX0 yX0_give yX0_give, Cond.code yX0_give cX0_give 4 none, Cond.methodLink RX0 153 yX0_shareByLaxity, Cond.instanceMethod yX0_shareByLaxity, Cond.selects RX0 yX0_shareByLaxity yX0_shareByLaxity, Cond.code yX0_shareByLaxity cX0_shareByLaxity 4 none, Cond.fieldLink RX0 31 "ChargePark" "turns" "[I", Cond.methodLink RX0 163 yX0_putIntoTurns, Cond.instanceMethod yX0_putIntoTurns, Cond.selects RX0 yX0_putIntoTurns yX0_putIntoTurns, Cond.code yX0_putIntoTurns cX0_putIntoTurns 5 none, Cond.methodLink RX0 77 yX0_laxityAt, Cond.instanceMethod yX0_laxityAt, Cond.selects RX0 yX0_laxityAt yX0_laxityAt, Cond.code yX0_laxityAt cX0_laxityAt 3 (some .int), Cond.methodLink RX0 93 yX0_stepsLeftAt, Cond.instanceMethod yX0_stepsLeftAt, Cond.selects RX0 yX0_stepsLeftAt yX0_stepsLeftAt, Cond.code yX0_stepsLeftAt cX0_stepsLeftAt 2 (some .int), Cond.methodLink RX0 87 Lib.Math.max.name, Cond.static Lib.Math.max.name, Cond.code Lib.Math.max.name Lib.Math.max.code 2 (some .int), Cond.methodLink RX0 156 yX0_keepBalance, Cond.instanceMethod yX0_keepBalance]
def wsL_fairLevel_r5 : List Cond := [Cond.selects RX0 yX0_keepBalance yX0_keepBalance, Cond.code yX0_keepBalance cX0_keepBalance 3 none, Cond.fieldLink RX0 40 "ChargePark" "greatestDifference" "I", Cond.methodLink RX0 108 yX0_differenceOfLoads, Cond.instanceMethod yX0_differenceOfLoads, Cond.selects RX0 yX0_differenceOfLoads yX0_differenceOfLoads, Cond.code yX0_differenceOfLoads cX0_differenceOfLoads 3 (some .int), Cond.methodLink RX0 177 yX0_phaseOfGreatestLoad, Cond.instanceMethod yX0_phaseOfGreatestLoad, Cond.selects RX0 yX0_phaseOfGreatestLoad yX0_phaseOfGreatestLoad, Cond.code yX0_phaseOfGreatestLoad cX0_phaseOfGreatestLoad 3 (some .int), Cond.methodLink RX0 180 yX0_mostGivenAloneAt, Cond.instanceMethod yX0_mostGivenAloneAt, Cond.selects RX0 yX0_mostGivenAloneAt yX0_mostGivenAloneAt, Cond.code yX0_mostGivenAloneAt cX0_mostGivenAloneAt 5 (some .int), Cond.methodLink RX0 112 yX0_givenAtAllPhases, Cond.instanceMethod yX0_givenAtAllPhases, Cond.selects RX0 yX0_givenAtAllPhases yX0_givenAtAllPhases, Cond.code yX0_givenAtAllPhases cX0_givenAtAllPhases 3 (some .int), Cond.methodLink RX0 115 yX0_usedAtLevel, Cond.instanceMethod yX0_usedAtLevel, Cond.selects RX0 yX0_usedAtLevel yX0_usedAtLevel, Cond.code yX0_usedAtLevel cX0_usedAtLevel 5 (some .int)]
def wsL_fairLevel : List Cond := .codeWith yL_fairLevel cL_fairLevel 4 (some .int) [(0, 9, 12, 13)] :: ((wsL_fairLevel_r1 ++ (wsL_fairLevel_r2 ++ (wsL_fairLevel_r3 ++ (wsL_fairLevel_r4 ++ wsL_fairLevel_r5)))) ++ wsX00 ++ (vx_atS RX0 122 "java/lang/IllegalArgumentException" ["java/lang/RuntimeException", "java/lang/Exception"]).filter goodWord)
def wsL_law0_r1 : List Cond := [Cond.classLink RL 8 RX0, Cond.instantiable RX0 16, Cond.initialized RX0, Cond.classLink RL 67 RX1, Cond.instantiable RX1 16, Cond.initialized RX1, Cond.arrayClass .long, Cond.methodLink RL 66 yX0_init, Cond.instanceMethod yX0_init, Cond.code yX0_init cX0_init 2 none, Cond.methodLink RX0 1 objectInit, Cond.instanceMethod objectInit, Cond.code objectInit ⟨#[0xb1]⟩ 1 none, Cond.arrayClass .int, Cond.fieldLink RX0 9 "ChargePark" "phaseOf" "[I", Cond.fieldLink RX0 13 "ChargePark" "greatestOf" "[I", Cond.fieldLink RX0 16 "ChargePark" "needOf" "[I", Cond.fieldLink RX0 19 "ChargePark" "appetiteOf" "[I", Cond.fieldLink RX0 22 "ChargePark" "leavesAt" "[I", Cond.fieldLink RX0 25 "ChargePark" "wanted" "[I", Cond.fieldLink RX0 28 "ChargePark" "given" "[I", Cond.fieldLink RX0 31 "ChargePark" "turns" "[I", Cond.fieldLink RX0 34 "ChargePark" "loadOf" "[I", Cond.fieldLink RX0 37 "ChargePark" "fuseOf" "[I"]
def wsL_law0_r2 : List Cond := [Cond.fieldLink RX0 40 "ChargePark" "greatestDifference" "I", Cond.fieldLink RX0 44 "ChargePark" "ruleInUse" "I", Cond.methodLink RL 69 yX1_init, Cond.instanceMethod yX1_init, Cond.code yX1_init cX1_init 2 none, Cond.methodLink RX1 1 objectInit, Cond.fieldLink RX1 7 "ChargeParkModel" "phase" "[I", Cond.fieldLink RX1 13 "ChargeParkModel" "greatest" "[I", Cond.arrayClass .boolean, Cond.fieldLink RX1 16 "ChargeParkModel" "car" "[Z", Cond.fieldLink RX1 20 "ChargeParkModel" "need" "[I", Cond.fieldLink RX1 23 "ChargeParkModel" "appetite" "[I", Cond.fieldLink RX1 26 "ChargeParkModel" "leaves" "[I", Cond.fieldLink RX1 29 "ChargeParkModel" "fuse" "[I", Cond.fieldLink RX1 32 "ChargeParkModel" "balance" "I", Cond.fieldLink RX1 36 "ChargeParkModel" "given" "[I", Cond.fieldLink RX1 39 "ChargeParkModel" "passed" "[Z", Cond.methodLink RL 70 yL_point, Cond.static yL_point, Cond.initialized RL, Cond.codeWith yL_point cL_point 5 (some .int) [(0, 10, 13, 13), (0, 10, 17, 15)], Cond.classLink RL 13 "java/lang/IllegalArgumentException", Cond.classLink RL 15 "java/lang/IllegalStateException", Cond.methodLink RL 7 yX0_point]
def wsL_law0_r3 : List Cond := [Cond.instanceMethod yX0_point, Cond.selects RX0 yX0_point yX0_point, Cond.code yX0_point cX0_point 4 (some .int), Cond.classLink RX0 58 "java/lang/IllegalStateException", Cond.initialized "java/lang/IllegalStateException", Cond.fieldLink RX0 55 "ChargePark" "pointCount" "I", Cond.methodLink RX0 47 yX0_requirePhase, Cond.static yX0_requirePhase, Cond.code yX0_requirePhase cX0_requirePhase 1 none, Cond.classLink RX0 118 "java/lang/IllegalArgumentException", Cond.initialized "java/lang/IllegalArgumentException", Cond.methodLink RX0 51 yX0_requireWithin, Cond.static yX0_requireWithin, Cond.code yX0_requireWithin cX0_requireWithin 3 none, Cond.methodLink RL 75 yX1_point, Cond.instanceMethod yX1_point, Cond.selects RX1 yX1_point yX1_point, Cond.code yX1_point cX1_point 3 (some .int), Cond.fieldLink RX1 49 "ChargeParkModel" "points" "I", Cond.fieldLink RX1 42 "ChargeParkModel" "thrown" "I", Cond.methodLink RX1 45 yX1_isIn, Cond.static yX1_isIn, Cond.code yX1_isIn cX1_isIn 3 (some .boolean), Cond.methodLink RL 76 yX1_thrown]
def wsL_law0_r4 : List Cond := [Cond.instanceMethod yX1_thrown, Cond.selects RX1 yX1_thrown yX1_thrown, Cond.code yX1_thrown cX1_thrown 1 (some .int), Cond.methodLink RL 80 yL_fuse, Cond.static yL_fuse, Cond.codeWith yL_fuse cL_fuse 5 (some .int) [(0, 10, 13, 13)], Cond.methodLink RL 17 yX0_fuse, Cond.instanceMethod yX0_fuse, Cond.selects RX0 yX0_fuse yX0_fuse, Cond.code yX0_fuse cX0_fuse 4 (some .int), Cond.methodLink RL 82 yX1_fuse, Cond.instanceMethod yX1_fuse, Cond.selects RX1 yX1_fuse yX1_fuse, Cond.code yX1_fuse cX1_fuse 4 (some .int), Cond.methodLink RL 83 yL_balance, Cond.static yL_balance, Cond.codeWith yL_balance cL_balance 4 (some .int) [(0, 9, 12, 13)], Cond.methodLink RL 20 yX0_balance, Cond.instanceMethod yX0_balance, Cond.selects RX0 yX0_balance yX0_balance, Cond.code yX0_balance cX0_balance 3 (some .int), Cond.methodLink RL 86 yX1_balance, Cond.instanceMethod yX1_balance, Cond.selects RX1 yX1_balance yX1_balance]
def wsL_law0_r5 : List Cond := [Cond.code yX1_balance cX1_balance 3 (some .int), Cond.methodLink RL 87 yL_rule, Cond.static yL_rule, Cond.codeWith yL_rule cL_rule 4 (some .int) [(0, 9, 12, 13)], Cond.methodLink RL 24 yX0_rule, Cond.instanceMethod yX0_rule, Cond.selects RX0 yX0_rule yX0_rule, Cond.code yX0_rule cX0_rule 3 (some .int), Cond.methodLink RL 89 yX1_rule, Cond.instanceMethod yX1_rule, Cond.selects RX1 yX1_rule yX1_rule, Cond.code yX1_rule cX1_rule 3 (some .int), Cond.fieldLink RX1 52 "ChargeParkModel" "rule" "I", Cond.methodLink RL 90 yL_plugIn, Cond.static yL_plugIn, Cond.codeWith yL_plugIn cL_plugIn 7 (some .int) [(0, 14, 17, 31), (0, 14, 21, 13), (0, 14, 25, 15)], Cond.classLink RL 31 "java/lang/IndexOutOfBoundsException", Cond.methodLink RL 27 yX0_plugIn, Cond.instanceMethod yX0_plugIn, Cond.selects RX0 yX0_plugIn yX0_plugIn, Cond.code yX0_plugIn cX0_plugIn 5 (some .int), Cond.fieldLink RX0 74 "ChargePark" "now" "I", Cond.methodLink RX0 65 yX0_requirePoint, Cond.instanceMethod yX0_requirePoint]
def wsL_law0_r6 : List Cond := [Cond.selects RX0 yX0_requirePoint yX0_requirePoint, Cond.code yX0_requirePoint cX0_requirePoint 2 none, Cond.classLink RX0 125 "java/lang/IndexOutOfBoundsException", Cond.initialized "java/lang/IndexOutOfBoundsException", Cond.methodLink RX0 68 yX0_hasCar, Cond.instanceMethod yX0_hasCar, Cond.selects RX0 yX0_hasCar yX0_hasCar, Cond.code yX0_hasCar cX0_hasCar 2 (some .boolean), Cond.methodLink RX0 77 yX0_laxityAt, Cond.instanceMethod yX0_laxityAt, Cond.selects RX0 yX0_laxityAt yX0_laxityAt, Cond.code yX0_laxityAt cX0_laxityAt 3 (some .int), Cond.methodLink RX0 135 yX0_lesserOfGreatestAndAppetite, Cond.instanceMethod yX0_lesserOfGreatestAndAppetite, Cond.selects RX0 yX0_lesserOfGreatestAndAppetite yX0_lesserOfGreatestAndAppetite, Cond.code yX0_lesserOfGreatestAndAppetite cX0_lesserOfGreatestAndAppetite 2 (some .int), Cond.methodLink RX0 132 Lib.Math.min.name, Cond.static Lib.Math.min.name, Cond.initialized "java/lang/Math", Cond.code Lib.Math.min.name Lib.Math.min.code 2 (some .int), Cond.methodLink RX0 138 yX0_unitsPerAmpere, Cond.instanceMethod yX0_unitsPerAmpere, Cond.selects RX0 yX0_unitsPerAmpere yX0_unitsPerAmpere, Cond.code yX0_unitsPerAmpere cX0_unitsPerAmpere 2 (some .int)]
def wsL_law0_r7 : List Cond := [Cond.methodLink RX0 93 yX0_stepsLeftAt, Cond.instanceMethod yX0_stepsLeftAt, Cond.selects RX0 yX0_stepsLeftAt yX0_stepsLeftAt, Cond.code yX0_stepsLeftAt cX0_stepsLeftAt 2 (some .int), Cond.methodLink RX0 87 Lib.Math.max.name, Cond.static Lib.Math.max.name, Cond.code Lib.Math.max.name Lib.Math.max.code 2 (some .int), Cond.methodLink RX0 141 yX0_dividedRoundedUp, Cond.static yX0_dividedRoundedUp, Cond.code yX0_dividedRoundedUp cX0_dividedRoundedUp 2 (some .int), Cond.methodLink RL 93 yX1_plugIn, Cond.instanceMethod yX1_plugIn, Cond.selects RX1 yX1_plugIn yX1_plugIn, Cond.code yX1_plugIn cX1_plugIn 5 (some .int), Cond.fieldLink RX1 55 "ChargeParkModel" "time" "I", Cond.methodLink RX1 72 yX1_isPoint, Cond.instanceMethod yX1_isPoint, Cond.selects RX1 yX1_isPoint yX1_isPoint, Cond.code yX1_isPoint cX1_isPoint 2 (some .boolean), Cond.methodLink RX1 76 yX1_lax, Cond.instanceMethod yX1_lax, Cond.selects RX1 yX1_lax yX1_lax, Cond.code yX1_lax cX1_lax 2 (some .int), Cond.methodLink RX1 58 yX1_stepsLeft]
def wsL_law0_r8 : List Cond := [Cond.instanceMethod yX1_stepsLeft, Cond.selects RX1 yX1_stepsLeft yX1_stepsLeft, Cond.code yX1_stepsLeft cX1_stepsLeft 2 (some .int), Cond.methodLink RX1 62 yX1_most, Cond.instanceMethod yX1_most, Cond.selects RX1 yX1_most yX1_most, Cond.code yX1_most cX1_most 2 (some .int), Cond.methodLink RX1 65 yX1_times, Cond.instanceMethod yX1_times, Cond.selects RX1 yX1_times yX1_times, Cond.code yX1_times cX1_times 2 (some .int), Cond.methodLink RX1 68 yX1_up, Cond.static yX1_up, Cond.code yX1_up cX1_up 2 (some .int), Cond.methodLink RL 94 yL_takeOut, Cond.static yL_takeOut, Cond.codeWith yL_takeOut cL_takeOut 4 (some .int) [(0, 9, 12, 31), (0, 9, 15, 15)], Cond.methodLink RL 33 yX0_takeOut, Cond.instanceMethod yX0_takeOut, Cond.selects RX0 yX0_takeOut yX0_takeOut, Cond.code yX0_takeOut cX0_takeOut 3 (some .int), Cond.fieldLink RX0 84 "ChargePark" "servedCars" "I", Cond.methodLink RX0 81 yX0_requireCar, Cond.instanceMethod yX0_requireCar]
def wsL_law0_r9 : List Cond := [Cond.selects RX0 yX0_requireCar yX0_requireCar, Cond.code yX0_requireCar cX0_requireCar 2 none, Cond.methodLink RL 96 yX1_takeOut, Cond.instanceMethod yX1_takeOut, Cond.selects RX1 yX1_takeOut yX1_takeOut, Cond.code yX1_takeOut cX1_takeOut 2 (some .int), Cond.fieldLink RX1 79 "ChargeParkModel" "served" "I", Cond.methodLink RL 97 yL_appetite, Cond.static yL_appetite, Cond.codeWith yL_appetite cL_appetite 5 (some .int) [(0, 10, 13, 31), (0, 10, 17, 13), (0, 10, 21, 15)], Cond.methodLink RL 36 yX0_appetite, Cond.instanceMethod yX0_appetite, Cond.selects RX0 yX0_appetite yX0_appetite, Cond.code yX0_appetite cX0_appetite 4 (some .int), Cond.methodLink RL 99 yX1_appetite, Cond.instanceMethod yX1_appetite, Cond.selects RX1 yX1_appetite yX1_appetite, Cond.code yX1_appetite cX1_appetite 4 (some .int), Cond.methodLink RL 100 yL_stay, Cond.static yL_stay, Cond.codeWith yL_stay cL_stay 5 (some .int) [(0, 10, 13, 31), (0, 10, 17, 13), (0, 10, 21, 15)], Cond.methodLink RL 39 yX0_stay, Cond.instanceMethod yX0_stay, Cond.selects RX0 yX0_stay yX0_stay]
def wsL_law0_r10 : List Cond := [Cond.code yX0_stay cX0_stay 3 (some .int), Cond.methodLink RL 102 yX1_stay, Cond.instanceMethod yX1_stay, Cond.selects RX1 yX1_stay yX1_stay, Cond.code yX1_stay cX1_stay 3 (some .int), Cond.methodLink RL 103 yL_step, Cond.static yL_step, Cond.codeWith yL_step cL_step 4 (some .int) [(0, 9, 12, 13)], Cond.methodLink RL 42 yX0_step, Cond.instanceMethod yX0_step, Cond.selects RX0 yX0_step yX0_step, Cond.code yX0_step cX0_step 4 (some .int), Cond.fieldLink RX0 96 "ChargePark" "takenUnits" "I", Cond.methodLink RX0 99 yX0_shareCurrents, Cond.instanceMethod yX0_shareCurrents, Cond.selects RX0 yX0_shareCurrents yX0_shareCurrents, Cond.code yX0_shareCurrents cX0_shareCurrents 1 none, Cond.methodLink RX0 147 yX0_startShares, Cond.instanceMethod yX0_startShares, Cond.selects RX0 yX0_startShares yX0_startShares, Cond.code yX0_startShares cX0_startShares 2 none, Cond.methodLink RX0 105 yX0_reachAt, Cond.instanceMethod yX0_reachAt, Cond.selects RX0 yX0_reachAt yX0_reachAt]
def wsL_law0_r11 : List Cond := [Cond.code yX0_reachAt cX0_reachAt 3 (some .int), Cond.methodLink RX0 144 yX0_isToBeGiven, Cond.instanceMethod yX0_isToBeGiven, Cond.selects RX0 yX0_isToBeGiven yX0_isToBeGiven, Cond.code yX0_isToBeGiven cX0_isToBeGiven 2 (some .boolean), Cond.methodLink RX0 150 yX0_shareFairly, Cond.instanceMethod yX0_shareFairly, Cond.selects RX0 yX0_shareFairly yX0_shareFairly, Cond.code yX0_shareFairly cX0_shareFairly 3 none, Cond.methodLink RX0 173 yX0_raiseAll, Cond.instanceMethod yX0_raiseAll, Cond.selects RX0 yX0_raiseAll yX0_raiseAll, Cond.code yX0_raiseAll cX0_raiseAll 3 (some .boolean), Cond.methodLink RX0 167 yX0_roomFor, Cond.instanceMethod yX0_roomFor, Cond.selects RX0 yX0_roomFor yX0_roomFor, Cond.code yX0_roomFor cX0_roomFor 4 (some .int), Cond.methodLink RX0 159 yX0_isAt, Cond.instanceMethod yX0_isAt, Cond.selects RX0 yX0_isAt yX0_isAt, Cond.code yX0_isAt cX0_isAt 3 (some .boolean), Cond.methodLink RX0 170 yX0_give, Cond.instanceMethod yX0_give, Cond.selects RX0 yX0_give yX0_give]
def wsL_law0_r12 : List Cond := [Cond.code yX0_give cX0_give 4 none, Cond.methodLink RX0 153 yX0_shareByLaxity, Cond.instanceMethod yX0_shareByLaxity, Cond.selects RX0 yX0_shareByLaxity yX0_shareByLaxity, Cond.code yX0_shareByLaxity cX0_shareByLaxity 4 none, Cond.methodLink RX0 163 yX0_putIntoTurns, Cond.instanceMethod yX0_putIntoTurns, Cond.selects RX0 yX0_putIntoTurns yX0_putIntoTurns, Cond.code yX0_putIntoTurns cX0_putIntoTurns 5 none, Cond.methodLink RX0 156 yX0_keepBalance, Cond.instanceMethod yX0_keepBalance, Cond.selects RX0 yX0_keepBalance yX0_keepBalance, Cond.code yX0_keepBalance cX0_keepBalance 3 none, Cond.methodLink RX0 108 yX0_differenceOfLoads, Cond.instanceMethod yX0_differenceOfLoads, Cond.selects RX0 yX0_differenceOfLoads yX0_differenceOfLoads, Cond.code yX0_differenceOfLoads cX0_differenceOfLoads 3 (some .int), Cond.methodLink RX0 177 yX0_phaseOfGreatestLoad, Cond.instanceMethod yX0_phaseOfGreatestLoad, Cond.selects RX0 yX0_phaseOfGreatestLoad yX0_phaseOfGreatestLoad, Cond.code yX0_phaseOfGreatestLoad cX0_phaseOfGreatestLoad 3 (some .int), Cond.methodLink RX0 180 yX0_mostGivenAloneAt, Cond.instanceMethod yX0_mostGivenAloneAt, Cond.selects RX0 yX0_mostGivenAloneAt yX0_mostGivenAloneAt]
def wsL_law0_r13 : List Cond := [Cond.code yX0_mostGivenAloneAt cX0_mostGivenAloneAt 5 (some .int), Cond.methodLink RX0 102 yX0_takeWhatIsGiven, Cond.instanceMethod yX0_takeWhatIsGiven, Cond.selects RX0 yX0_takeWhatIsGiven yX0_takeWhatIsGiven, Cond.code yX0_takeWhatIsGiven cX0_takeWhatIsGiven 3 none, Cond.methodLink RL 105 yX1_step, Cond.instanceMethod yX1_step, Cond.selects RX1 yX1_step yX1_step, Cond.code yX1_step cX1_step 6 (some .int), Cond.fieldLink RX1 113 "ChargeParkModel" "taken" "I", Cond.methodLink RX1 110 yX1_shares, Cond.instanceMethod yX1_shares, Cond.selects RX1 yX1_shares yX1_shares, Cond.code yX1_shares cX1_shares 2 none, Cond.methodLink RX1 98 yX1_byLaxity, Cond.instanceMethod yX1_byLaxity, Cond.selects RX1 yX1_byLaxity yX1_byLaxity, Cond.code yX1_byLaxity cX1_byLaxity 3 none, Cond.methodLink RX1 85 yX1_reaches, Cond.instanceMethod yX1_reaches, Cond.selects RX1 yX1_reaches yX1_reaches, Cond.code yX1_reaches cX1_reaches 4 (some .int), Cond.methodLink RX1 88 yX1_ahead, Cond.instanceMethod yX1_ahead]
def wsL_law0_r14 : List Cond := [Cond.selects RX1 yX1_ahead yX1_ahead, Cond.code yX1_ahead cX1_ahead 4 (some .int), Cond.methodLink RX1 91 yX1_room, Cond.instanceMethod yX1_room, Cond.selects RX1 yX1_room yX1_room, Cond.code yX1_room cX1_room 5 (some .int), Cond.methodLink RX1 82 yX1_flows, Cond.instanceMethod yX1_flows, Cond.selects RX1 yX1_flows yX1_flows, Cond.code yX1_flows cX1_flows 4 (some .int), Cond.methodLink RX1 101 yX1_fairly, Cond.instanceMethod yX1_fairly, Cond.selects RX1 yX1_fairly yX1_fairly, Cond.code yX1_fairly cX1_fairly 3 none, Cond.methodLink RX1 104 yX1_apart, Cond.instanceMethod yX1_apart, Cond.selects RX1 yX1_apart yX1_apart, Cond.code yX1_apart cX1_apart 3 (some .int), Cond.methodLink RX1 94 yX1_high, Cond.instanceMethod yX1_high, Cond.selects RX1 yX1_high yX1_high, Cond.code yX1_high cX1_high 3 (some .int), Cond.methodLink RX1 107 yX1_giver, Cond.instanceMethod yX1_giver]
def wsL_law0_r15 : List Cond := [Cond.selects RX1 yX1_giver yX1_giver, Cond.code yX1_giver cX1_giver 6 (some .int), Cond.methodLink RL 106 yX0_time, Cond.instanceMethod yX0_time, Cond.selects RX0 yX0_time yX0_time, Cond.code yX0_time cX0_time 1 (some .int), Cond.methodLink RL 109 yX1_time, Cond.instanceMethod yX1_time, Cond.selects RX1 yX1_time yX1_time, Cond.code yX1_time cX1_time 1 (some .int), Cond.methodLink RL 110 yX0_points, Cond.instanceMethod yX0_points, Cond.selects RX0 yX0_points yX0_points, Cond.code yX0_points cX0_points 1 (some .int), Cond.methodLink RL 113 yX1_points, Cond.instanceMethod yX1_points, Cond.selects RX1 yX1_points yX1_points, Cond.code yX1_points cX1_points 1 (some .int), Cond.methodLink RL 114 yX0_taken, Cond.instanceMethod yX0_taken, Cond.selects RX0 yX0_taken yX0_taken, Cond.code yX0_taken cX0_taken 1 (some .int), Cond.methodLink RL 117 yX1_taken, Cond.instanceMethod yX1_taken]
def wsL_law0_r16 : List Cond := [Cond.selects RX1 yX1_taken yX1_taken, Cond.code yX1_taken cX1_taken 1 (some .int), Cond.methodLink RL 118 yX0_served, Cond.instanceMethod yX0_served, Cond.selects RX0 yX0_served yX0_served, Cond.code yX0_served cX0_served 1 (some .int), Cond.methodLink RL 121 yX1_served, Cond.instanceMethod yX1_served, Cond.selects RX1 yX1_served yX1_served, Cond.code yX1_served cX1_served 1 (some .int), Cond.methodLink RL 122 yL_need, Cond.static yL_need, Cond.codeWith yL_need cL_need 4 (some .int) [(0, 9, 12, 31)], Cond.methodLink RL 45 yX0_need, Cond.instanceMethod yX0_need, Cond.selects RX0 yX0_need yX0_need, Cond.code yX0_need cX0_need 2 (some .int), Cond.methodLink RL 124 yX1_need, Cond.instanceMethod yX1_need, Cond.selects RX1 yX1_need yX1_need, Cond.code yX1_need cX1_need 2 (some .int), Cond.methodLink RL 125 yL_left, Cond.static yL_left, Cond.codeWith yL_left cL_left 4 (some .int) [(0, 9, 12, 31)]]
def wsL_law0_r17 : List Cond := [Cond.methodLink RL 48 yX0_left, Cond.instanceMethod yX0_left, Cond.selects RX0 yX0_left yX0_left, Cond.code yX0_left cX0_left 2 (some .int), Cond.methodLink RL 127 yX1_left, Cond.instanceMethod yX1_left, Cond.selects RX1 yX1_left yX1_left, Cond.code yX1_left cX1_left 2 (some .int), Cond.methodLink RL 128 yL_laxity, Cond.static yL_laxity, Cond.codeWith yL_laxity cL_laxity 4 (some .int) [(0, 9, 12, 31), (0, 9, 15, 15)], Cond.methodLink RL 51 yX0_laxity, Cond.instanceMethod yX0_laxity, Cond.selects RX0 yX0_laxity yX0_laxity, Cond.code yX0_laxity cX0_laxity 2 (some .int), Cond.methodLink RL 130 yX1_laxity, Cond.instanceMethod yX1_laxity, Cond.selects RX1 yX1_laxity yX1_laxity, Cond.code yX1_laxity cX1_laxity 2 (some .int), Cond.methodLink RL 131 yL_reach, Cond.static yL_reach, Cond.codeWith yL_reach cL_reach 4 (some .int) [(0, 9, 12, 31)], Cond.methodLink RL 54 yX0_reach, Cond.instanceMethod yX0_reach]
def wsL_law0_r18 : List Cond := [Cond.selects RX0 yX0_reach yX0_reach, Cond.code yX0_reach cX0_reach 2 (some .int), Cond.methodLink RL 133 yX1_reach, Cond.instanceMethod yX1_reach, Cond.selects RX1 yX1_reach yX1_reach, Cond.code yX1_reach cX1_reach 2 (some .int), Cond.methodLink RL 134 yL_current, Cond.static yL_current, Cond.codeWith yL_current cL_current 4 (some .int) [(0, 9, 12, 31)], Cond.methodLink RL 57 yX0_current, Cond.instanceMethod yX0_current, Cond.selects RX0 yX0_current yX0_current, Cond.code yX0_current cX0_current 2 (some .int), Cond.methodLink RL 136 yX1_current, Cond.instanceMethod yX1_current, Cond.selects RX1 yX1_current yX1_current, Cond.code yX1_current cX1_current 2 (some .int), Cond.methodLink RL 137 yL_load, Cond.static yL_load, Cond.codeWith yL_load cL_load 4 (some .int) [(0, 9, 12, 13)], Cond.methodLink RL 60 yX0_load, Cond.instanceMethod yX0_load, Cond.selects RX0 yX0_load yX0_load, Cond.code yX0_load cX0_load 2 (some .int)]
def wsL_law0_r19 : List Cond := [Cond.methodLink RL 139 yX1_load, Cond.instanceMethod yX1_load, Cond.selects RX1 yX1_load yX1_load, Cond.code yX1_load cX1_load 2 (some .int), Cond.methodLink RL 140 yX0_imbalance, Cond.instanceMethod yX0_imbalance, Cond.selects RX0 yX0_imbalance yX0_imbalance, Cond.code yX0_imbalance cX0_imbalance 1 (some .int), Cond.methodLink RL 143 yX1_imbalance, Cond.instanceMethod yX1_imbalance, Cond.selects RX1 yX1_imbalance yX1_imbalance, Cond.code yX1_imbalance cX1_imbalance 1 (some .int), Cond.methodLink RL 144 yX0_held, Cond.instanceMethod yX0_held, Cond.selects RX0 yX0_held yX0_held, Cond.code yX0_held cX0_held 3 (some .int), Cond.methodLink RL 147 yX1_held, Cond.instanceMethod yX1_held, Cond.selects RX1 yX1_held yX1_held, Cond.code yX1_held cX1_held 3 (some .int), Cond.methodLink RL 148 yL_fairLevel, Cond.static yL_fairLevel, Cond.codeWith yL_fairLevel cL_fairLevel 4 (some .int) [(0, 9, 12, 13)], Cond.methodLink RL 63 yX0_fairLevel]
def wsL_law0_r20 : List Cond := [Cond.instanceMethod yX0_fairLevel, Cond.selects RX0 yX0_fairLevel yX0_fairLevel, Cond.code yX0_fairLevel cX0_fairLevel 6 (some .int), Cond.methodLink RX0 112 yX0_givenAtAllPhases, Cond.instanceMethod yX0_givenAtAllPhases, Cond.selects RX0 yX0_givenAtAllPhases yX0_givenAtAllPhases, Cond.code yX0_givenAtAllPhases cX0_givenAtAllPhases 3 (some .int), Cond.methodLink RX0 115 yX0_usedAtLevel, Cond.instanceMethod yX0_usedAtLevel, Cond.selects RX0 yX0_usedAtLevel yX0_usedAtLevel, Cond.code yX0_usedAtLevel cX0_usedAtLevel 5 (some .int), Cond.methodLink RL 150 yX1_fairLevel, Cond.instanceMethod yX1_fairLevel, Cond.selects RX1 yX1_fairLevel yX1_fairLevel, Cond.code yX1_fairLevel cX1_fairLevel 7 (some .int), Cond.methodLink RL 151 yX0_canBeReady, Cond.instanceMethod yX0_canBeReady, Cond.selects RX0 yX0_canBeReady yX0_canBeReady, Cond.code yX0_canBeReady cX0_canBeReady 2 (some .boolean), Cond.methodLink RL 155 yX1_canBeReady, Cond.instanceMethod yX1_canBeReady, Cond.selects RX1 yX1_canBeReady yX1_canBeReady, Cond.code yX1_canBeReady cX1_canBeReady 3 (some .boolean)]
def wsL_law0 : List Cond := (wsL_law0_r1 ++ (wsL_law0_r2 ++ (wsL_law0_r3 ++ (wsL_law0_r4 ++ (wsL_law0_r5 ++ (wsL_law0_r6 ++ (wsL_law0_r7 ++ (wsL_law0_r8 ++ (wsL_law0_r9 ++ (wsL_law0_r10 ++ (wsL_law0_r11 ++ (wsL_law0_r12 ++ (wsL_law0_r13 ++ (wsL_law0_r14 ++ (wsL_law0_r15 ++ (wsL_law0_r16 ++ (wsL_law0_r17 ++ (wsL_law0_r18 ++ (wsL_law0_r19 ++ wsL_law0_r20))))))))))))))))))) ++ wsX00 ++ wsX10 ++ ([] : List Cond)
def wsL_law : List Cond := wsL_law0 ++ (vx_atS RX0 62 "java/lang/IllegalStateException" ["java/lang/RuntimeException", "java/lang/Exception"]).filter goodWord ++ (vx_atS RX0 122 "java/lang/IllegalArgumentException" ["java/lang/RuntimeException", "java/lang/Exception"]).filter goodWord ++ (vx_atS RX0 129 "java/lang/IndexOutOfBoundsException" ["java/lang/RuntimeException", "java/lang/Exception"]).filter goodWord
end
section
theorem in_app {big a b : List Cond} (ha : ∀ w ∈ a, w ∈ big) (hb : ∀ w ∈ b, w ∈ big) : ∀ w ∈ a ++ b, w ∈ big := fun w h => (List.mem_append.mp h).elim (ha w) (hb w)
set_option maxRecDepth 20000 in
theorem wsL_law_in0_r1 : ∀ w ∈ wsL_law0_r1, w ∈ lw_tbl := fun w h => (goodIn_p wsL_law0_r1 [55, 58] (by decide +kernel) (by decide +kernel) w h).1
set_option maxRecDepth 20000 in
theorem wsL_law_in0_r2 : ∀ w ∈ wsL_law0_r2, w ∈ lw_tbl := fun w h => (goodIn_p wsL_law0_r2 [474] (by decide +kernel) (by decide +kernel) w h).1
set_option maxRecDepth 20000 in
theorem wsL_law_in0_r3 : ∀ w ∈ wsL_law0_r3, w ∈ lw_tbl := fun w h => (goodIn_p wsL_law0_r3 [230, 233, 304, 533, 536] (by decide +kernel) (by decide +kernel) w h).1
set_option maxRecDepth 20000 in
theorem wsL_law_in0_r4 : ∀ w ∈ wsL_law0_r4, w ∈ lw_tbl := fun w h => (goodIn_p wsL_law0_r4 [529, 328, 540, 335] (by decide +kernel) (by decide +kernel) w h).1
set_option maxRecDepth 20000 in
theorem wsL_law_in0_r5 : ∀ w ∈ wsL_law0_r5, w ∈ lw_tbl := fun w h => (goodIn_p wsL_law0_r5 [544, 342, 548, 350] (by decide +kernel) (by decide +kernel) w h).1
set_option maxRecDepth 20000 in
theorem wsL_law_in0_r6 : ∀ w ∈ wsL_law0_r6, w ∈ lw_tbl := fun w h => (goodIn_p wsL_law0_r6 [354, 374, 190, 155, 158, 148] (by decide +kernel) (by decide +kernel) w h).1
set_option maxRecDepth 20000 in
theorem wsL_law_in0_r7 : ∀ w ∈ wsL_law0_r7, w ∈ lw_tbl := fun w h => (goodIn_p wsL_law0_r7 [194, 197, 151, 552, 556, 560] (by decide +kernel) (by decide +kernel) w h).1
set_option maxRecDepth 20000 in
theorem wsL_law_in0_r8 : ∀ w ∈ wsL_law0_r8, w ∈ lw_tbl := fun w h => (goodIn_p wsL_law0_r8 [564, 568, 572, 575, 382] (by decide +kernel) (by decide +kernel) w h).1
set_option maxRecDepth 20000 in
theorem wsL_law_in0_r9 : ∀ w ∈ wsL_law0_r9, w ∈ lw_tbl := fun w h => (goodIn_p wsL_law0_r9 [386, 579, 394, 583] (by decide +kernel) (by decide +kernel) w h).1
set_option maxRecDepth 20000 in
theorem wsL_law_in0_r10 : ∀ w ∈ wsL_law0_r10, w ∈ lw_tbl := fun w h => (goodIn_p wsL_law0_r10 [401, 587, 408, 132, 136] (by decide +kernel) (by decide +kernel) w h).1
set_option maxRecDepth 20000 in
theorem wsL_law_in0_r11 : ∀ w ∈ wsL_law0_r11, w ∈ lw_tbl := fun w h => (goodIn_p wsL_law0_r11 [140, 144, 162, 166, 170, 174] (by decide +kernel) (by decide +kernel) w h).1
set_option maxRecDepth 20000 in
theorem wsL_law_in0_r12 : ∀ w ∈ wsL_law0_r12, w ∈ lw_tbl := fun w h => (goodIn_p wsL_law0_r12 [178, 182, 186, 201, 205, 209] (by decide +kernel) (by decide +kernel) w h).1
set_option maxRecDepth 20000 in
theorem wsL_law_in0_r13 : ∀ w ∈ wsL_law0_r13, w ∈ lw_tbl := fun w h => (goodIn_p wsL_law0_r13 [213, 412, 591, 595, 599, 603] (by decide +kernel) (by decide +kernel) w h).1
set_option maxRecDepth 20000 in
theorem wsL_law_in0_r14 : ∀ w ∈ wsL_law0_r14, w ∈ lw_tbl := fun w h => (goodIn_p wsL_law0_r14 [607, 611, 615, 619, 623, 627] (by decide +kernel) (by decide +kernel) w h).1
set_option maxRecDepth 20000 in
theorem wsL_law_in0_r15 : ∀ w ∈ wsL_law0_r15, w ∈ lw_tbl := fun w h => (goodIn_p wsL_law0_r15 [631, 112, 635, 116, 639, 120] (by decide +kernel) (by decide +kernel) w h).1
set_option maxRecDepth 20000 in
theorem wsL_law_in0_r16 : ∀ w ∈ wsL_law0_r16, w ∈ lw_tbl := fun w h => (goodIn_p wsL_law0_r16 [643, 124, 647, 419, 651] (by decide +kernel) (by decide +kernel) w h).1
set_option maxRecDepth 20000 in
theorem wsL_law_in0_r17 : ∀ w ∈ wsL_law0_r17, w ∈ lw_tbl := fun w h => (goodIn_p wsL_law0_r17 [426, 655, 433, 659] (by decide +kernel) (by decide +kernel) w h).1
set_option maxRecDepth 20000 in
theorem wsL_law_in0_r18 : ∀ w ∈ wsL_law0_r18, w ∈ lw_tbl := fun w h => (goodIn_p wsL_law0_r18 [440, 663, 447, 667, 454] (by decide +kernel) (by decide +kernel) w h).1
set_option maxRecDepth 20000 in
theorem wsL_law_in0_r19 : ∀ w ∈ wsL_law0_r19, w ∈ lw_tbl := fun w h => (goodIn_p wsL_law0_r19 [671, 128, 675, 217, 679] (by decide +kernel) (by decide +kernel) w h).1
set_option maxRecDepth 20000 in
theorem wsL_law_in0_r20 : ∀ w ∈ wsL_law0_r20, w ∈ lw_tbl := fun w h => (goodIn_p wsL_law0_r20 [461, 465, 469, 683, 221, 687] (by decide +kernel) (by decide +kernel) w h).1
set_option maxRecDepth 20000 in
theorem wsL_law_in0_wsX00 : ∀ w ∈ wsX00, w ∈ lw_tbl := fun w h => (goodIn_p wsX00 [] (by decide +kernel) (by decide +kernel) w h).1
set_option maxRecDepth 20000 in
theorem wsL_law_in0_wsX10 : ∀ w ∈ wsX10, w ∈ lw_tbl := fun w h => (goodIn_p wsX10 [] (by decide +kernel) (by decide +kernel) w h).1
theorem wsL_law_in0 : ∀ w ∈ wsL_law0, w ∈ lw_tbl := in_app (in_app (in_app (in_app wsL_law_in0_r1 (in_app wsL_law_in0_r2 (in_app wsL_law_in0_r3 (in_app wsL_law_in0_r4 (in_app wsL_law_in0_r5 (in_app wsL_law_in0_r6 (in_app wsL_law_in0_r7 (in_app wsL_law_in0_r8 (in_app wsL_law_in0_r9 (in_app wsL_law_in0_r10 (in_app wsL_law_in0_r11 (in_app wsL_law_in0_r12 (in_app wsL_law_in0_r13 (in_app wsL_law_in0_r14 (in_app wsL_law_in0_r15 (in_app wsL_law_in0_r16 (in_app wsL_law_in0_r17 (in_app wsL_law_in0_r18 (in_app wsL_law_in0_r19 wsL_law_in0_r20))))))))))))))))))) wsL_law_in0_wsX00) wsL_law_in0_wsX10) (fun _ h => absurd h List.not_mem_nil)
theorem wsL_law_x0 : ∀ w ∈ (vx_atS RX0 62 "java/lang/IllegalStateException" ["java/lang/RuntimeException", "java/lang/Exception"]).filter goodWord, w ∈ lw_tbl := by decide +kernel
theorem wsL_law_x1 : ∀ w ∈ (vx_atS RX0 122 "java/lang/IllegalArgumentException" ["java/lang/RuntimeException", "java/lang/Exception"]).filter goodWord, w ∈ lw_tbl := by decide +kernel
theorem wsL_law_x2 : ∀ w ∈ (vx_atS RX0 129 "java/lang/IndexOutOfBoundsException" ["java/lang/RuntimeException", "java/lang/Exception"]).filter goodWord, w ∈ lw_tbl := by decide +kernel
theorem wsL_law_in : ∀ w ∈ wsL_law, w ∈ lw_tbl := fun w h => (List.mem_append.mp h).elim (fun h => (List.mem_append.mp h).elim (fun h => (List.mem_append.mp h).elim (fun h => wsL_law_in0 w h) (fun h => wsL_law_x0 w h)) (fun h => wsL_law_x1 w h)) (fun h => wsL_law_x2 w h)
theorem inlX0 : ∀ w ∈ wsX00, w ∈ wsL_law := fun _ h => List.mem_append_left _ (List.mem_append_left _ (List.mem_append_left _ (List.mem_append_left _ (List.mem_append_left _ (List.mem_append_right _ h)))))
theorem inX0 : ∀ w ∈ wsX00, w ∈ lw_tbl := fun w h => wsL_law_in w (inlX0 w h)
theorem inlX1 : ∀ w ∈ wsX10, w ∈ wsL_law := fun _ h => List.mem_append_left _ (List.mem_append_left _ (List.mem_append_left _ (List.mem_append_left _ (List.mem_append_right _ h))))
theorem inX1 : ∀ w ∈ wsX10, w ∈ lw_tbl := fun w h => wsL_law_in w (inlX1 w h)
theorem inJ9 : ∀ w ∈ wsJ90, w ∈ lw_tbl := by decide +kernel
theorem inJ0 : ∀ w ∈ wsJ00, w ∈ lw_tbl := by decide +kernel
end
section
theorem dX0_init_0 : decode cX0_init 0 = .ok (.aload_n 0, 1) := by decide +kernel
theorem dX0_init_1 : decode cX0_init 1 = .ok (.invokespecial 1, 3) := by decide +kernel
theorem dX0_init_4 : decode cX0_init 4 = .ok (.aload_n 0, 1) := by decide +kernel
theorem dX0_init_5 : decode cX0_init 5 = .ok (.bipush 8, 2) := by decide +kernel
theorem dX0_init_7 : decode cX0_init 7 = .ok (.newarray .int, 2) := by decide +kernel
theorem dX0_init_9 : decode cX0_init 9 = .ok (.putfield 9, 3) := by decide +kernel
theorem dX0_init_12 : decode cX0_init 12 = .ok (.aload_n 0, 1) := by decide +kernel
theorem dX0_init_13 : decode cX0_init 13 = .ok (.bipush 8, 2) := by decide +kernel
theorem dX0_init_15 : decode cX0_init 15 = .ok (.newarray .int, 2) := by decide +kernel
theorem dX0_init_17 : decode cX0_init 17 = .ok (.putfield 13, 3) := by decide +kernel
theorem dX0_init_20 : decode cX0_init 20 = .ok (.aload_n 0, 1) := by decide +kernel
theorem dX0_init_21 : decode cX0_init 21 = .ok (.bipush 8, 2) := by decide +kernel
theorem dX0_init_23 : decode cX0_init 23 = .ok (.newarray .int, 2) := by decide +kernel
theorem dX0_init_25 : decode cX0_init 25 = .ok (.putfield 16, 3) := by decide +kernel
theorem dX0_init_28 : decode cX0_init 28 = .ok (.aload_n 0, 1) := by decide +kernel
theorem dX0_init_29 : decode cX0_init 29 = .ok (.bipush 8, 2) := by decide +kernel
theorem dX0_init_31 : decode cX0_init 31 = .ok (.newarray .int, 2) := by decide +kernel
theorem dX0_init_33 : decode cX0_init 33 = .ok (.putfield 19, 3) := by decide +kernel
theorem dX0_init_36 : decode cX0_init 36 = .ok (.aload_n 0, 1) := by decide +kernel
theorem dX0_init_37 : decode cX0_init 37 = .ok (.bipush 8, 2) := by decide +kernel
theorem dX0_init_39 : decode cX0_init 39 = .ok (.newarray .int, 2) := by decide +kernel
theorem dX0_init_41 : decode cX0_init 41 = .ok (.putfield 22, 3) := by decide +kernel
theorem dX0_init_44 : decode cX0_init 44 = .ok (.aload_n 0, 1) := by decide +kernel
theorem dX0_init_45 : decode cX0_init 45 = .ok (.bipush 8, 2) := by decide +kernel
theorem dX0_init_47 : decode cX0_init 47 = .ok (.newarray .int, 2) := by decide +kernel
theorem dX0_init_49 : decode cX0_init 49 = .ok (.putfield 25, 3) := by decide +kernel
theorem dX0_init_52 : decode cX0_init 52 = .ok (.aload_n 0, 1) := by decide +kernel
theorem dX0_init_53 : decode cX0_init 53 = .ok (.bipush 8, 2) := by decide +kernel
theorem dX0_init_55 : decode cX0_init 55 = .ok (.newarray .int, 2) := by decide +kernel
theorem dX0_init_57 : decode cX0_init 57 = .ok (.putfield 28, 3) := by decide +kernel
theorem dX0_init_60 : decode cX0_init 60 = .ok (.aload_n 0, 1) := by decide +kernel
theorem dX0_init_61 : decode cX0_init 61 = .ok (.bipush 8, 2) := by decide +kernel
theorem dX0_init_63 : decode cX0_init 63 = .ok (.newarray .int, 2) := by decide +kernel
theorem dX0_init_65 : decode cX0_init 65 = .ok (.putfield 31, 3) := by decide +kernel
theorem dX0_init_68 : decode cX0_init 68 = .ok (.aload_n 0, 1) := by decide +kernel
theorem dX0_init_69 : decode cX0_init 69 = .ok (.iconst 3, 1) := by decide +kernel
theorem dX0_init_70 : decode cX0_init 70 = .ok (.newarray .int, 2) := by decide +kernel
theorem dX0_init_72 : decode cX0_init 72 = .ok (.putfield 34, 3) := by decide +kernel
theorem dX0_init_75 : decode cX0_init 75 = .ok (.aload_n 0, 1) := by decide +kernel
theorem dX0_init_76 : decode cX0_init 76 = .ok (.iconst 3, 1) := by decide +kernel
theorem dX0_init_77 : decode cX0_init 77 = .ok (.newarray .int, 2) := by decide +kernel
theorem dX0_init_79 : decode cX0_init 79 = .ok (.putfield 37, 3) := by decide +kernel
theorem dX0_init_82 : decode cX0_init 82 = .ok (.iconst 0, 1) := by decide +kernel
theorem dX0_init_83 : decode cX0_init 83 = .ok (.istore_n 1, 1) := by decide +kernel
theorem dX0_init_84 : decode cX0_init 84 = .ok (.iload_n 1, 1) := by decide +kernel
theorem dX0_init_85 : decode cX0_init 85 = .ok (.iconst 3, 1) := by decide +kernel
theorem dX0_init_86 : decode cX0_init 86 = .ok (.if_icmp .ge 17, 3) := by decide +kernel
theorem dX0_init_89 : decode cX0_init 89 = .ok (.aload_n 0, 1) := by decide +kernel
theorem dX0_init_90 : decode cX0_init 90 = .ok (.getfield 37, 3) := by decide +kernel
theorem dX0_init_93 : decode cX0_init 93 = .ok (.iload_n 1, 1) := by decide +kernel
theorem dX0_init_94 : decode cX0_init 94 = .ok (.bipush 32, 2) := by decide +kernel
theorem dX0_init_96 : decode cX0_init 96 = .ok (.iastore, 1) := by decide +kernel
theorem dX0_init_97 : decode cX0_init 97 = .ok (.iinc 1 1, 3) := by decide +kernel
theorem dX0_init_100 : decode cX0_init 100 = .ok (.goto (-16), 3) := by decide +kernel
theorem dX0_init_103 : decode cX0_init 103 = .ok (.aload_n 0, 1) := by decide +kernel
theorem dX0_init_104 : decode cX0_init 104 = .ok (.bipush 100, 2) := by decide +kernel
theorem dX0_init_106 : decode cX0_init 106 = .ok (.putfield 40, 3) := by decide +kernel
theorem dX0_init_109 : decode cX0_init 109 = .ok (.aload_n 0, 1) := by decide +kernel
theorem dX0_init_110 : decode cX0_init 110 = .ok (.iconst 0, 1) := by decide +kernel
theorem dX0_init_111 : decode cX0_init 111 = .ok (.putfield 44, 3) := by decide +kernel
theorem dX0_init_114 : decode cX0_init 114 = .ok (.return_, 1) := by decide +kernel
set_option maxRecDepth 20000 in
theorem ggX0_point_X0_requirePhase : GoodIn wsX0_point wsX0_requirePhase := goodIn_ca (goodIn_r _ [10, 11, 12] (by decide +kernel) (by decide +kernel)) (goodIn_sub (fun _ h => List.mem_cons_of_mem _ (List.mem_append_right _ h)) (by decide +kernel))
set_option maxRecDepth 20000 in
theorem gX0_point_X0_requirePhase : GoodIn wsX0_point (va_wsS RX0 47 yX0_requirePhase wsX0_requirePhase) := goodIn_app (goodIn_of _ (by decide +kernel)) ggX0_point_X0_requirePhase
set_option maxRecDepth 20000 in
theorem ggX0_point_X0_requireWithin : GoodIn wsX0_point wsX0_requireWithin := goodIn_ca (goodIn_r _ [15, 11, 12] (by decide +kernel) (by decide +kernel)) (goodIn_sub (fun _ h => List.mem_cons_of_mem _ (List.mem_append_right _ h)) (by decide +kernel))
set_option maxRecDepth 20000 in
theorem gX0_point_X0_requireWithin : GoodIn wsX0_point (va_wsS RX0 51 yX0_requireWithin wsX0_requireWithin) := goodIn_app (goodIn_of _ (by decide +kernel)) ggX0_point_X0_requireWithin
theorem dX0_point_0 : decode cX0_point 0 = .ok (.iload_n 1, 1) := by decide +kernel
theorem dX0_point_1 : decode cX0_point 1 = .ok (.iconst 3, 1) := by decide +kernel
theorem dX0_point_2 : decode cX0_point 2 = .ok (.if_icmp .eq 7, 3) := by decide +kernel
theorem dX0_point_5 : decode cX0_point 5 = .ok (.iload_n 1, 1) := by decide +kernel
theorem dX0_point_6 : decode cX0_point 6 = .ok (.invokestatic 47, 3) := by decide +kernel
theorem dX0_point_9 : decode cX0_point 9 = .ok (.iload_n 2, 1) := by decide +kernel
theorem dX0_point_10 : decode cX0_point 10 = .ok (.bipush 6, 2) := by decide +kernel
theorem dX0_point_12 : decode cX0_point 12 = .ok (.bipush 32, 2) := by decide +kernel
theorem dX0_point_14 : decode cX0_point 14 = .ok (.invokestatic 51, 3) := by decide +kernel
theorem dX0_point_17 : decode cX0_point 17 = .ok (.aload_n 0, 1) := by decide +kernel
theorem dX0_point_18 : decode cX0_point 18 = .ok (.getfield 55, 3) := by decide +kernel
theorem dX0_point_21 : decode cX0_point 21 = .ok (.bipush 8, 2) := by decide +kernel
theorem dX0_point_23 : decode cX0_point 23 = .ok (.if_icmp .lt 13, 3) := by decide +kernel
theorem dX0_point_26 : decode cX0_point 26 = .ok (.new 58, 3) := by decide +kernel
theorem dX0_point_29 : decode cX0_point 29 = .ok (.dup, 1) := by decide +kernel
theorem dX0_point_30 : decode cX0_point 30 = .ok (.ldc 60, 2) := by decide +kernel
theorem dX0_point_32 : decode cX0_point 32 = .ok (.invokespecial 62, 3) := by decide +kernel
theorem dX0_point_35 : decode cX0_point 35 = .ok (.athrow, 1) := by decide +kernel
theorem dX0_point_36 : decode cX0_point 36 = .ok (.aload_n 0, 1) := by decide +kernel
theorem dX0_point_37 : decode cX0_point 37 = .ok (.getfield 55, 3) := by decide +kernel
theorem dX0_point_40 : decode cX0_point 40 = .ok (.istore_n 3, 1) := by decide +kernel
theorem dX0_point_41 : decode cX0_point 41 = .ok (.aload_n 0, 1) := by decide +kernel
theorem dX0_point_42 : decode cX0_point 42 = .ok (.getfield 9, 3) := by decide +kernel
theorem dX0_point_45 : decode cX0_point 45 = .ok (.iload_n 3, 1) := by decide +kernel
theorem dX0_point_46 : decode cX0_point 46 = .ok (.iload_n 1, 1) := by decide +kernel
theorem dX0_point_47 : decode cX0_point 47 = .ok (.iastore, 1) := by decide +kernel
theorem dX0_point_48 : decode cX0_point 48 = .ok (.aload_n 0, 1) := by decide +kernel
theorem dX0_point_49 : decode cX0_point 49 = .ok (.getfield 13, 3) := by decide +kernel
theorem dX0_point_52 : decode cX0_point 52 = .ok (.iload_n 3, 1) := by decide +kernel
theorem dX0_point_53 : decode cX0_point 53 = .ok (.iload_n 2, 1) := by decide +kernel
theorem dX0_point_54 : decode cX0_point 54 = .ok (.iastore, 1) := by decide +kernel
theorem dX0_point_55 : decode cX0_point 55 = .ok (.aload_n 0, 1) := by decide +kernel
theorem dX0_point_56 : decode cX0_point 56 = .ok (.getfield 16, 3) := by decide +kernel
theorem dX0_point_59 : decode cX0_point 59 = .ok (.iload_n 3, 1) := by decide +kernel
theorem dX0_point_60 : decode cX0_point 60 = .ok (.iconst (-1), 1) := by decide +kernel
theorem dX0_point_61 : decode cX0_point 61 = .ok (.iastore, 1) := by decide +kernel
theorem dX0_point_62 : decode cX0_point 62 = .ok (.aload_n 0, 1) := by decide +kernel
theorem dX0_point_63 : decode cX0_point 63 = .ok (.dup, 1) := by decide +kernel
theorem dX0_point_64 : decode cX0_point 64 = .ok (.getfield 55, 3) := by decide +kernel
theorem dX0_point_67 : decode cX0_point 67 = .ok (.iconst 1, 1) := by decide +kernel
theorem dX0_point_68 : decode cX0_point 68 = .ok (.iadd, 1) := by decide +kernel
theorem dX0_point_69 : decode cX0_point 69 = .ok (.putfield 55, 3) := by decide +kernel
theorem dX0_point_72 : decode cX0_point 72 = .ok (.iload_n 3, 1) := by decide +kernel
theorem dX0_point_73 : decode cX0_point 73 = .ok (.ireturn, 1) := by decide +kernel
set_option maxRecDepth 20000 in
theorem ggX0_fuse_X0_requirePhase : GoodIn wsX0_fuse wsX0_requirePhase := goodIn_ca (goodIn_r _ [5, 6, 7] (by decide +kernel) (by decide +kernel)) (goodIn_sub (fun _ h => List.mem_cons_of_mem _ (List.mem_append_right _ h)) (by decide +kernel))
set_option maxRecDepth 20000 in
theorem gX0_fuse_X0_requirePhase : GoodIn wsX0_fuse (va_wsS RX0 47 yX0_requirePhase wsX0_requirePhase) := goodIn_app (goodIn_of _ (by decide +kernel)) ggX0_fuse_X0_requirePhase
set_option maxRecDepth 20000 in
theorem ggX0_fuse_X0_requireWithin : GoodIn wsX0_fuse wsX0_requireWithin := goodIn_ca (goodIn_r _ [10, 6, 7] (by decide +kernel) (by decide +kernel)) (goodIn_sub (fun _ h => List.mem_cons_of_mem _ (List.mem_append_right _ h)) (by decide +kernel))
set_option maxRecDepth 20000 in
theorem gX0_fuse_X0_requireWithin : GoodIn wsX0_fuse (va_wsS RX0 51 yX0_requireWithin wsX0_requireWithin) := goodIn_app (goodIn_of _ (by decide +kernel)) ggX0_fuse_X0_requireWithin
theorem dX0_fuse_0 : decode cX0_fuse 0 = .ok (.iload_n 1, 1) := by decide +kernel
theorem dX0_fuse_1 : decode cX0_fuse 1 = .ok (.invokestatic 47, 3) := by decide +kernel
theorem dX0_fuse_4 : decode cX0_fuse 4 = .ok (.iload_n 2, 1) := by decide +kernel
theorem dX0_fuse_5 : decode cX0_fuse 5 = .ok (.iconst 0, 1) := by decide +kernel
theorem dX0_fuse_6 : decode cX0_fuse 6 = .ok (.bipush 100, 2) := by decide +kernel
theorem dX0_fuse_8 : decode cX0_fuse 8 = .ok (.invokestatic 51, 3) := by decide +kernel
theorem dX0_fuse_11 : decode cX0_fuse 11 = .ok (.aload_n 0, 1) := by decide +kernel
theorem dX0_fuse_12 : decode cX0_fuse 12 = .ok (.getfield 37, 3) := by decide +kernel
theorem dX0_fuse_15 : decode cX0_fuse 15 = .ok (.iload_n 1, 1) := by decide +kernel
theorem dX0_fuse_16 : decode cX0_fuse 16 = .ok (.iaload, 1) := by decide +kernel
theorem dX0_fuse_17 : decode cX0_fuse 17 = .ok (.istore_n 3, 1) := by decide +kernel
theorem dX0_fuse_18 : decode cX0_fuse 18 = .ok (.aload_n 0, 1) := by decide +kernel
theorem dX0_fuse_19 : decode cX0_fuse 19 = .ok (.getfield 37, 3) := by decide +kernel
theorem dX0_fuse_22 : decode cX0_fuse 22 = .ok (.iload_n 1, 1) := by decide +kernel
theorem dX0_fuse_23 : decode cX0_fuse 23 = .ok (.iload_n 2, 1) := by decide +kernel
theorem dX0_fuse_24 : decode cX0_fuse 24 = .ok (.iastore, 1) := by decide +kernel
theorem dX0_fuse_25 : decode cX0_fuse 25 = .ok (.iload_n 3, 1) := by decide +kernel
theorem dX0_fuse_26 : decode cX0_fuse 26 = .ok (.ireturn, 1) := by decide +kernel
set_option maxRecDepth 20000 in
theorem ggX0_balance_X0_requireWithin : GoodIn wsX0_balance wsX0_requireWithin := goodIn_ca (goodIn_r _ [5, 6, 7] (by decide +kernel) (by decide +kernel)) (goodIn_sub (fun _ h => List.mem_cons_of_mem _ (List.mem_append_right _ h)) (by decide +kernel))
set_option maxRecDepth 20000 in
theorem gX0_balance_X0_requireWithin : GoodIn wsX0_balance (va_wsS RX0 51 yX0_requireWithin wsX0_requireWithin) := goodIn_app (goodIn_of _ (by decide +kernel)) ggX0_balance_X0_requireWithin
theorem dX0_balance_0 : decode cX0_balance 0 = .ok (.iload_n 1, 1) := by decide +kernel
theorem dX0_balance_1 : decode cX0_balance 1 = .ok (.iconst 0, 1) := by decide +kernel
theorem dX0_balance_2 : decode cX0_balance 2 = .ok (.bipush 100, 2) := by decide +kernel
theorem dX0_balance_4 : decode cX0_balance 4 = .ok (.invokestatic 51, 3) := by decide +kernel
theorem dX0_balance_7 : decode cX0_balance 7 = .ok (.aload_n 0, 1) := by decide +kernel
theorem dX0_balance_8 : decode cX0_balance 8 = .ok (.getfield 40, 3) := by decide +kernel
theorem dX0_balance_11 : decode cX0_balance 11 = .ok (.istore_n 2, 1) := by decide +kernel
theorem dX0_balance_12 : decode cX0_balance 12 = .ok (.aload_n 0, 1) := by decide +kernel
theorem dX0_balance_13 : decode cX0_balance 13 = .ok (.iload_n 1, 1) := by decide +kernel
theorem dX0_balance_14 : decode cX0_balance 14 = .ok (.putfield 40, 3) := by decide +kernel
theorem dX0_balance_17 : decode cX0_balance 17 = .ok (.iload_n 2, 1) := by decide +kernel
theorem dX0_balance_18 : decode cX0_balance 18 = .ok (.ireturn, 1) := by decide +kernel
set_option maxRecDepth 20000 in
theorem ggX0_rule_X0_requireWithin : GoodIn wsX0_rule wsX0_requireWithin := goodIn_ca (goodIn_r _ [5, 6, 7] (by decide +kernel) (by decide +kernel)) (goodIn_sub (fun _ h => List.mem_cons_of_mem _ (List.mem_append_right _ h)) (by decide +kernel))
set_option maxRecDepth 20000 in
theorem gX0_rule_X0_requireWithin : GoodIn wsX0_rule (va_wsS RX0 51 yX0_requireWithin wsX0_requireWithin) := goodIn_app (goodIn_of _ (by decide +kernel)) ggX0_rule_X0_requireWithin
theorem dX0_rule_0 : decode cX0_rule 0 = .ok (.iload_n 1, 1) := by decide +kernel
theorem dX0_rule_1 : decode cX0_rule 1 = .ok (.iconst 0, 1) := by decide +kernel
theorem dX0_rule_2 : decode cX0_rule 2 = .ok (.iconst 1, 1) := by decide +kernel
theorem dX0_rule_3 : decode cX0_rule 3 = .ok (.invokestatic 51, 3) := by decide +kernel
theorem dX0_rule_6 : decode cX0_rule 6 = .ok (.aload_n 0, 1) := by decide +kernel
theorem dX0_rule_7 : decode cX0_rule 7 = .ok (.getfield 44, 3) := by decide +kernel
theorem dX0_rule_10 : decode cX0_rule 10 = .ok (.istore_n 2, 1) := by decide +kernel
theorem dX0_rule_11 : decode cX0_rule 11 = .ok (.aload_n 0, 1) := by decide +kernel
theorem dX0_rule_12 : decode cX0_rule 12 = .ok (.iload_n 1, 1) := by decide +kernel
theorem dX0_rule_13 : decode cX0_rule 13 = .ok (.putfield 44, 3) := by decide +kernel
theorem dX0_rule_16 : decode cX0_rule 16 = .ok (.iload_n 2, 1) := by decide +kernel
theorem dX0_rule_17 : decode cX0_rule 17 = .ok (.ireturn, 1) := by decide +kernel
set_option maxRecDepth 20000 in
theorem ggX0_plugIn_X0_requirePoint : GoodIn wsX0_plugIn wsX0_requirePoint := goodIn_ca (goodIn_r _ [11, 12, 13, 14, 52, 53, 54, 55, 56, 57, 58, 59, 60, 61, 62, 63, 64, 65, 66, 67] (by decide +kernel) (by decide +kernel)) (goodIn_sub (fun _ h => List.mem_cons_of_mem _ (List.mem_append_left _ (List.mem_append_right _ h))) (by decide +kernel))
set_option maxRecDepth 20000 in
theorem gX0_plugIn_X0_requirePoint : GoodIn wsX0_plugIn (wsV RX0 65 RX0 yX0_requirePoint wsX0_requirePoint) := goodIn_app (goodIn_of _ (by decide +kernel)) ggX0_plugIn_X0_requirePoint
set_option maxRecDepth 20000 in
theorem ggX0_plugIn_X0_requireWithin : GoodIn wsX0_plugIn wsX0_requireWithin := goodIn_ca (goodIn_r _ [17, 18, 19] (by decide +kernel) (by decide +kernel)) (goodIn_sub (fun _ h => List.mem_cons_of_mem _ (List.mem_append_right _ h)) (by decide +kernel))
set_option maxRecDepth 20000 in
theorem gX0_plugIn_X0_requireWithin : GoodIn wsX0_plugIn (va_wsS RX0 51 yX0_requireWithin wsX0_requireWithin) := goodIn_app (goodIn_of _ (by decide +kernel)) ggX0_plugIn_X0_requireWithin
set_option maxRecDepth 20000 in
theorem ggX0_plugIn_X0_hasCar : GoodIn wsX0_plugIn wsX0_hasCar := goodIn_r _ [23, 3, 52, 53, 54, 55, 56, 57, 58, 59, 60, 61, 62, 63, 64, 65, 66, 67] (by decide +kernel) (by decide +kernel)
set_option maxRecDepth 20000 in
theorem gX0_plugIn_X0_hasCar : GoodIn wsX0_plugIn (wsV RX0 68 RX0 yX0_hasCar wsX0_hasCar) := goodIn_app (goodIn_of _ (by decide +kernel)) ggX0_plugIn_X0_hasCar
set_option maxRecDepth 20000 in
theorem ggX0_plugIn_X0_laxityAt : GoodIn wsX0_plugIn wsX0_laxityAt := goodIn_r _ [27, 3, 28, 29, 30, 10, 31, 32, 4, 33, 34, 35, 36, 37, 38, 39, 40, 41, 42, 43, 44, 45, 5, 6, 46, 47, 48, 49, 50, 51, 52, 53, 54, 55, 56, 57, 58, 59, 60, 61, 62, 63, 64, 65, 66, 67] (by decide +kernel) (by decide +kernel)
set_option maxRecDepth 20000 in
theorem gX0_plugIn_X0_laxityAt : GoodIn wsX0_plugIn (wsV RX0 77 RX0 yX0_laxityAt wsX0_laxityAt) := goodIn_app (goodIn_of _ (by decide +kernel)) ggX0_plugIn_X0_laxityAt
theorem dX0_plugIn_0 : decode cX0_plugIn 0 = .ok (.aload_n 0, 1) := by decide +kernel
theorem dX0_plugIn_1 : decode cX0_plugIn 1 = .ok (.iload_n 1, 1) := by decide +kernel
theorem dX0_plugIn_2 : decode cX0_plugIn 2 = .ok (.invokevirtual 65, 3) := by decide +kernel
theorem dX0_plugIn_5 : decode cX0_plugIn 5 = .ok (.iload_n 2, 1) := by decide +kernel
theorem dX0_plugIn_6 : decode cX0_plugIn 6 = .ok (.iconst 1, 1) := by decide +kernel
theorem dX0_plugIn_7 : decode cX0_plugIn 7 = .ok (.sipush 5000, 3) := by decide +kernel
theorem dX0_plugIn_10 : decode cX0_plugIn 10 = .ok (.invokestatic 51, 3) := by decide +kernel
theorem dX0_plugIn_13 : decode cX0_plugIn 13 = .ok (.iload_n 3, 1) := by decide +kernel
theorem dX0_plugIn_14 : decode cX0_plugIn 14 = .ok (.iconst 1, 1) := by decide +kernel
theorem dX0_plugIn_15 : decode cX0_plugIn 15 = .ok (.bipush 32, 2) := by decide +kernel
theorem dX0_plugIn_17 : decode cX0_plugIn 17 = .ok (.invokestatic 51, 3) := by decide +kernel
theorem dX0_plugIn_20 : decode cX0_plugIn 20 = .ok (.iload 4, 2) := by decide +kernel
theorem dX0_plugIn_22 : decode cX0_plugIn 22 = .ok (.iconst 1, 1) := by decide +kernel
theorem dX0_plugIn_23 : decode cX0_plugIn 23 = .ok (.sipush 500, 3) := by decide +kernel
theorem dX0_plugIn_26 : decode cX0_plugIn 26 = .ok (.invokestatic 51, 3) := by decide +kernel
theorem dX0_plugIn_29 : decode cX0_plugIn 29 = .ok (.aload_n 0, 1) := by decide +kernel
theorem dX0_plugIn_30 : decode cX0_plugIn 30 = .ok (.iload_n 1, 1) := by decide +kernel
theorem dX0_plugIn_31 : decode cX0_plugIn 31 = .ok (.invokevirtual 68, 3) := by decide +kernel
theorem dX0_plugIn_34 : decode cX0_plugIn 34 = .ok (.ifCond .eq 13, 3) := by decide +kernel
theorem dX0_plugIn_37 : decode cX0_plugIn 37 = .ok (.new 58, 3) := by decide +kernel
theorem dX0_plugIn_40 : decode cX0_plugIn 40 = .ok (.dup, 1) := by decide +kernel
theorem dX0_plugIn_41 : decode cX0_plugIn 41 = .ok (.ldc 72, 2) := by decide +kernel
theorem dX0_plugIn_43 : decode cX0_plugIn 43 = .ok (.invokespecial 62, 3) := by decide +kernel
theorem dX0_plugIn_46 : decode cX0_plugIn 46 = .ok (.athrow, 1) := by decide +kernel
theorem dX0_plugIn_47 : decode cX0_plugIn 47 = .ok (.aload_n 0, 1) := by decide +kernel
theorem dX0_plugIn_48 : decode cX0_plugIn 48 = .ok (.getfield 16, 3) := by decide +kernel
theorem dX0_plugIn_51 : decode cX0_plugIn 51 = .ok (.iload_n 1, 1) := by decide +kernel
theorem dX0_plugIn_52 : decode cX0_plugIn 52 = .ok (.iload_n 2, 1) := by decide +kernel
theorem dX0_plugIn_53 : decode cX0_plugIn 53 = .ok (.iastore, 1) := by decide +kernel
theorem dX0_plugIn_54 : decode cX0_plugIn 54 = .ok (.aload_n 0, 1) := by decide +kernel
theorem dX0_plugIn_55 : decode cX0_plugIn 55 = .ok (.getfield 19, 3) := by decide +kernel
theorem dX0_plugIn_58 : decode cX0_plugIn 58 = .ok (.iload_n 1, 1) := by decide +kernel
theorem dX0_plugIn_59 : decode cX0_plugIn 59 = .ok (.iload_n 3, 1) := by decide +kernel
theorem dX0_plugIn_60 : decode cX0_plugIn 60 = .ok (.iastore, 1) := by decide +kernel
theorem dX0_plugIn_61 : decode cX0_plugIn 61 = .ok (.aload_n 0, 1) := by decide +kernel
theorem dX0_plugIn_62 : decode cX0_plugIn 62 = .ok (.getfield 22, 3) := by decide +kernel
theorem dX0_plugIn_65 : decode cX0_plugIn 65 = .ok (.iload_n 1, 1) := by decide +kernel
theorem dX0_plugIn_66 : decode cX0_plugIn 66 = .ok (.aload_n 0, 1) := by decide +kernel
theorem dX0_plugIn_67 : decode cX0_plugIn 67 = .ok (.getfield 74, 3) := by decide +kernel
theorem dX0_plugIn_70 : decode cX0_plugIn 70 = .ok (.iload 4, 2) := by decide +kernel
theorem dX0_plugIn_72 : decode cX0_plugIn 72 = .ok (.iadd, 1) := by decide +kernel
theorem dX0_plugIn_73 : decode cX0_plugIn 73 = .ok (.iastore, 1) := by decide +kernel
theorem dX0_plugIn_74 : decode cX0_plugIn 74 = .ok (.aload_n 0, 1) := by decide +kernel
theorem dX0_plugIn_75 : decode cX0_plugIn 75 = .ok (.iload_n 1, 1) := by decide +kernel
theorem dX0_plugIn_76 : decode cX0_plugIn 76 = .ok (.invokevirtual 77, 3) := by decide +kernel
theorem dX0_plugIn_79 : decode cX0_plugIn 79 = .ok (.ireturn, 1) := by decide +kernel
set_option maxRecDepth 20000 in
theorem ggX0_takeOut_X0_requirePoint : GoodIn wsX0_takeOut wsX0_requirePoint := goodIn_ca (goodIn_r _ [7, 8, 9, 10, 21, 22, 23, 24, 25, 26, 27, 28, 29, 30, 31, 32, 33, 34, 35, 36] (by decide +kernel) (by decide +kernel)) (goodIn_sub (fun _ h => List.mem_cons_of_mem _ (List.mem_append_left _ (List.mem_append_right _ h))) (by decide +kernel))
set_option maxRecDepth 20000 in
theorem gX0_takeOut_X0_requirePoint : GoodIn wsX0_takeOut (wsV RX0 65 RX0 yX0_requirePoint wsX0_requirePoint) := goodIn_app (goodIn_of _ (by decide +kernel)) ggX0_takeOut_X0_requirePoint
set_option maxRecDepth 20000 in
theorem ggX0_takeOut_X0_requireCar : GoodIn wsX0_takeOut wsX0_requireCar := goodIn_ca (goodIn_r _ [14, 15, 16, 17, 18, 19, 6, 20, 1, 21, 22, 23, 24, 25, 26, 27, 28, 29, 30, 31, 32, 33, 34, 35, 36] (by decide +kernel) (by decide +kernel)) (goodIn_sub (fun _ h => List.mem_cons_of_mem _ (List.mem_append_right _ h)) (by decide +kernel))
set_option maxRecDepth 20000 in
theorem gX0_takeOut_X0_requireCar : GoodIn wsX0_takeOut (wsV RX0 81 RX0 yX0_requireCar wsX0_requireCar) := goodIn_app (goodIn_of _ (by decide +kernel)) ggX0_takeOut_X0_requireCar
theorem dX0_takeOut_0 : decode cX0_takeOut 0 = .ok (.aload_n 0, 1) := by decide +kernel
theorem dX0_takeOut_1 : decode cX0_takeOut 1 = .ok (.iload_n 1, 1) := by decide +kernel
theorem dX0_takeOut_2 : decode cX0_takeOut 2 = .ok (.invokevirtual 65, 3) := by decide +kernel
theorem dX0_takeOut_5 : decode cX0_takeOut 5 = .ok (.aload_n 0, 1) := by decide +kernel
theorem dX0_takeOut_6 : decode cX0_takeOut 6 = .ok (.iload_n 1, 1) := by decide +kernel
theorem dX0_takeOut_7 : decode cX0_takeOut 7 = .ok (.invokevirtual 81, 3) := by decide +kernel
theorem dX0_takeOut_10 : decode cX0_takeOut 10 = .ok (.aload_n 0, 1) := by decide +kernel
theorem dX0_takeOut_11 : decode cX0_takeOut 11 = .ok (.getfield 16, 3) := by decide +kernel
theorem dX0_takeOut_14 : decode cX0_takeOut 14 = .ok (.iload_n 1, 1) := by decide +kernel
theorem dX0_takeOut_15 : decode cX0_takeOut 15 = .ok (.iaload, 1) := by decide +kernel
theorem dX0_takeOut_16 : decode cX0_takeOut 16 = .ok (.istore_n 2, 1) := by decide +kernel
theorem dX0_takeOut_17 : decode cX0_takeOut 17 = .ok (.iload_n 2, 1) := by decide +kernel
theorem dX0_takeOut_18 : decode cX0_takeOut 18 = .ok (.ifCond .ne 13, 3) := by decide +kernel
theorem dX0_takeOut_21 : decode cX0_takeOut 21 = .ok (.aload_n 0, 1) := by decide +kernel
theorem dX0_takeOut_22 : decode cX0_takeOut 22 = .ok (.dup, 1) := by decide +kernel
theorem dX0_takeOut_23 : decode cX0_takeOut 23 = .ok (.getfield 84, 3) := by decide +kernel
theorem dX0_takeOut_26 : decode cX0_takeOut 26 = .ok (.iconst 1, 1) := by decide +kernel
theorem dX0_takeOut_27 : decode cX0_takeOut 27 = .ok (.iadd, 1) := by decide +kernel
theorem dX0_takeOut_28 : decode cX0_takeOut 28 = .ok (.putfield 84, 3) := by decide +kernel
theorem dX0_takeOut_31 : decode cX0_takeOut 31 = .ok (.aload_n 0, 1) := by decide +kernel
theorem dX0_takeOut_32 : decode cX0_takeOut 32 = .ok (.getfield 16, 3) := by decide +kernel
theorem dX0_takeOut_35 : decode cX0_takeOut 35 = .ok (.iload_n 1, 1) := by decide +kernel
theorem dX0_takeOut_36 : decode cX0_takeOut 36 = .ok (.iconst (-1), 1) := by decide +kernel
theorem dX0_takeOut_37 : decode cX0_takeOut 37 = .ok (.iastore, 1) := by decide +kernel
theorem dX0_takeOut_38 : decode cX0_takeOut 38 = .ok (.iload_n 2, 1) := by decide +kernel
theorem dX0_takeOut_39 : decode cX0_takeOut 39 = .ok (.ireturn, 1) := by decide +kernel
set_option maxRecDepth 20000 in
theorem ggX0_appetite_X0_requirePoint : GoodIn wsX0_appetite wsX0_requirePoint := goodIn_ca (goodIn_r _ [6, 7, 8, 9, 26, 27, 28, 29, 30, 31, 32, 33, 34, 35, 36, 37, 38, 39, 40, 41] (by decide +kernel) (by decide +kernel)) (goodIn_sub (fun _ h => List.mem_cons_of_mem _ (List.mem_append_left _ (List.mem_append_left _ (List.mem_append_right _ h)))) (by decide +kernel))
set_option maxRecDepth 20000 in
theorem gX0_appetite_X0_requirePoint : GoodIn wsX0_appetite (wsV RX0 65 RX0 yX0_requirePoint wsX0_requirePoint) := goodIn_app (goodIn_of _ (by decide +kernel)) ggX0_appetite_X0_requirePoint
set_option maxRecDepth 20000 in
theorem ggX0_appetite_X0_requireWithin : GoodIn wsX0_appetite wsX0_requireWithin := goodIn_ca (goodIn_r _ [12, 13, 14] (by decide +kernel) (by decide +kernel)) (goodIn_sub (fun _ h => List.mem_cons_of_mem _ (List.mem_append_left _ (List.mem_append_right _ h))) (by decide +kernel))
set_option maxRecDepth 20000 in
theorem gX0_appetite_X0_requireWithin : GoodIn wsX0_appetite (va_wsS RX0 51 yX0_requireWithin wsX0_requireWithin) := goodIn_app (goodIn_of _ (by decide +kernel)) ggX0_appetite_X0_requireWithin
set_option maxRecDepth 20000 in
theorem ggX0_appetite_X0_requireCar : GoodIn wsX0_appetite wsX0_requireCar := goodIn_ca (goodIn_r _ [18, 19, 20, 21, 22, 23, 5, 24, 25, 26, 27, 28, 29, 30, 31, 32, 33, 34, 35, 36, 37, 38, 39, 40, 41] (by decide +kernel) (by decide +kernel)) (goodIn_sub (fun _ h => List.mem_cons_of_mem _ (List.mem_append_right _ h)) (by decide +kernel))
set_option maxRecDepth 20000 in
theorem gX0_appetite_X0_requireCar : GoodIn wsX0_appetite (wsV RX0 81 RX0 yX0_requireCar wsX0_requireCar) := goodIn_app (goodIn_of _ (by decide +kernel)) ggX0_appetite_X0_requireCar
theorem dX0_appetite_0 : decode cX0_appetite 0 = .ok (.aload_n 0, 1) := by decide +kernel
theorem dX0_appetite_1 : decode cX0_appetite 1 = .ok (.iload_n 1, 1) := by decide +kernel
theorem dX0_appetite_2 : decode cX0_appetite 2 = .ok (.invokevirtual 65, 3) := by decide +kernel
theorem dX0_appetite_5 : decode cX0_appetite 5 = .ok (.iload_n 2, 1) := by decide +kernel
theorem dX0_appetite_6 : decode cX0_appetite 6 = .ok (.iconst 1, 1) := by decide +kernel
theorem dX0_appetite_7 : decode cX0_appetite 7 = .ok (.bipush 32, 2) := by decide +kernel
theorem dX0_appetite_9 : decode cX0_appetite 9 = .ok (.invokestatic 51, 3) := by decide +kernel
theorem dX0_appetite_12 : decode cX0_appetite 12 = .ok (.aload_n 0, 1) := by decide +kernel
theorem dX0_appetite_13 : decode cX0_appetite 13 = .ok (.iload_n 1, 1) := by decide +kernel
theorem dX0_appetite_14 : decode cX0_appetite 14 = .ok (.invokevirtual 81, 3) := by decide +kernel
theorem dX0_appetite_17 : decode cX0_appetite 17 = .ok (.aload_n 0, 1) := by decide +kernel
theorem dX0_appetite_18 : decode cX0_appetite 18 = .ok (.getfield 19, 3) := by decide +kernel
theorem dX0_appetite_21 : decode cX0_appetite 21 = .ok (.iload_n 1, 1) := by decide +kernel
theorem dX0_appetite_22 : decode cX0_appetite 22 = .ok (.iaload, 1) := by decide +kernel
theorem dX0_appetite_23 : decode cX0_appetite 23 = .ok (.istore_n 3, 1) := by decide +kernel
theorem dX0_appetite_24 : decode cX0_appetite 24 = .ok (.aload_n 0, 1) := by decide +kernel
theorem dX0_appetite_25 : decode cX0_appetite 25 = .ok (.getfield 19, 3) := by decide +kernel
theorem dX0_appetite_28 : decode cX0_appetite 28 = .ok (.iload_n 1, 1) := by decide +kernel
theorem dX0_appetite_29 : decode cX0_appetite 29 = .ok (.iload_n 2, 1) := by decide +kernel
theorem dX0_appetite_30 : decode cX0_appetite 30 = .ok (.iastore, 1) := by decide +kernel
theorem dX0_appetite_31 : decode cX0_appetite 31 = .ok (.iload_n 3, 1) := by decide +kernel
theorem dX0_appetite_32 : decode cX0_appetite 32 = .ok (.ireturn, 1) := by decide +kernel
set_option maxRecDepth 20000 in
theorem ggX0_stay_X0_requirePoint : GoodIn wsX0_stay wsX0_requirePoint := goodIn_ca (goodIn_r _ [11, 12, 13, 14, 35, 36, 37, 38, 39, 40, 41, 42, 43, 44, 45, 46, 47, 48, 49, 50] (by decide +kernel) (by decide +kernel)) (goodIn_sub (fun _ h => List.mem_cons_of_mem _ (List.mem_append_left _ (List.mem_append_left _ (List.mem_append_right _ h)))) (by decide +kernel))
set_option maxRecDepth 20000 in
theorem gX0_stay_X0_requirePoint : GoodIn wsX0_stay (wsV RX0 65 RX0 yX0_requirePoint wsX0_requirePoint) := goodIn_app (goodIn_of _ (by decide +kernel)) ggX0_stay_X0_requirePoint
set_option maxRecDepth 20000 in
theorem ggX0_stay_X0_requireWithin : GoodIn wsX0_stay wsX0_requireWithin := goodIn_ca (goodIn_r _ [17, 18, 19] (by decide +kernel) (by decide +kernel)) (goodIn_sub (fun _ h => List.mem_cons_of_mem _ (List.mem_append_left _ (List.mem_append_right _ h))) (by decide +kernel))
set_option maxRecDepth 20000 in
theorem gX0_stay_X0_requireWithin : GoodIn wsX0_stay (va_wsS RX0 51 yX0_requireWithin wsX0_requireWithin) := goodIn_app (goodIn_of _ (by decide +kernel)) ggX0_stay_X0_requireWithin
set_option maxRecDepth 20000 in
theorem ggX0_stay_X0_requireCar : GoodIn wsX0_stay wsX0_requireCar := goodIn_ca (goodIn_r _ [23, 24, 25, 26, 27, 28, 10, 29, 30, 35, 36, 37, 38, 39, 40, 41, 42, 43, 44, 45, 46, 47, 48, 49, 50] (by decide +kernel) (by decide +kernel)) (goodIn_sub (fun _ h => List.mem_cons_of_mem _ (List.mem_append_right _ h)) (by decide +kernel))
set_option maxRecDepth 20000 in
theorem gX0_stay_X0_requireCar : GoodIn wsX0_stay (wsV RX0 81 RX0 yX0_requireCar wsX0_requireCar) := goodIn_app (goodIn_of _ (by decide +kernel)) ggX0_stay_X0_requireCar
set_option maxRecDepth 20000 in
theorem ggX0_stay_X0_stepsLeftAt : GoodIn wsX0_stay wsX0_stepsLeftAt := goodIn_r _ [34, 1, 2, 3, 4, 5, 6, 35, 36, 37, 38, 39, 40, 41, 42, 43, 44, 45, 46, 47, 48, 49, 50] (by decide +kernel) (by decide +kernel)
set_option maxRecDepth 20000 in
theorem gX0_stay_X0_stepsLeftAt : GoodIn wsX0_stay (wsV RX0 93 RX0 yX0_stepsLeftAt wsX0_stepsLeftAt) := goodIn_app (goodIn_of _ (by decide +kernel)) ggX0_stay_X0_stepsLeftAt
theorem dX0_stay_0 : decode cX0_stay 0 = .ok (.aload_n 0, 1) := by decide +kernel
theorem dX0_stay_1 : decode cX0_stay 1 = .ok (.iload_n 1, 1) := by decide +kernel
theorem dX0_stay_2 : decode cX0_stay 2 = .ok (.invokevirtual 65, 3) := by decide +kernel
theorem dX0_stay_5 : decode cX0_stay 5 = .ok (.iload_n 2, 1) := by decide +kernel
theorem dX0_stay_6 : decode cX0_stay 6 = .ok (.iconst 1, 1) := by decide +kernel
theorem dX0_stay_7 : decode cX0_stay 7 = .ok (.sipush 500, 3) := by decide +kernel
theorem dX0_stay_10 : decode cX0_stay 10 = .ok (.invokestatic 51, 3) := by decide +kernel
theorem dX0_stay_13 : decode cX0_stay 13 = .ok (.aload_n 0, 1) := by decide +kernel
theorem dX0_stay_14 : decode cX0_stay 14 = .ok (.iload_n 1, 1) := by decide +kernel
theorem dX0_stay_15 : decode cX0_stay 15 = .ok (.invokevirtual 81, 3) := by decide +kernel
theorem dX0_stay_18 : decode cX0_stay 18 = .ok (.aload_n 0, 1) := by decide +kernel
theorem dX0_stay_19 : decode cX0_stay 19 = .ok (.getfield 22, 3) := by decide +kernel
theorem dX0_stay_22 : decode cX0_stay 22 = .ok (.iload_n 1, 1) := by decide +kernel
theorem dX0_stay_23 : decode cX0_stay 23 = .ok (.aload_n 0, 1) := by decide +kernel
theorem dX0_stay_24 : decode cX0_stay 24 = .ok (.getfield 22, 3) := by decide +kernel
theorem dX0_stay_27 : decode cX0_stay 27 = .ok (.iload_n 1, 1) := by decide +kernel
theorem dX0_stay_28 : decode cX0_stay 28 = .ok (.iaload, 1) := by decide +kernel
theorem dX0_stay_29 : decode cX0_stay 29 = .ok (.aload_n 0, 1) := by decide +kernel
theorem dX0_stay_30 : decode cX0_stay 30 = .ok (.getfield 74, 3) := by decide +kernel
theorem dX0_stay_33 : decode cX0_stay 33 = .ok (.invokestatic 87, 3) := by decide +kernel
theorem dX0_stay_36 : decode cX0_stay 36 = .ok (.iload_n 2, 1) := by decide +kernel
theorem dX0_stay_37 : decode cX0_stay 37 = .ok (.iadd, 1) := by decide +kernel
theorem dX0_stay_38 : decode cX0_stay 38 = .ok (.iastore, 1) := by decide +kernel
theorem dX0_stay_39 : decode cX0_stay 39 = .ok (.aload_n 0, 1) := by decide +kernel
theorem dX0_stay_40 : decode cX0_stay 40 = .ok (.iload_n 1, 1) := by decide +kernel
theorem dX0_stay_41 : decode cX0_stay 41 = .ok (.invokevirtual 93, 3) := by decide +kernel
theorem dX0_stay_44 : decode cX0_stay 44 = .ok (.ireturn, 1) := by decide +kernel
set_option maxRecDepth 20000 in
theorem ggX0_step_X0_requireWithin : GoodIn wsX0_step wsX0_requireWithin := goodIn_ca (goodIn_r _ [6, 7, 8] (by decide +kernel) (by decide +kernel)) (goodIn_sub (fun _ h => List.mem_cons_of_mem _ (List.mem_append_right _ h)) (by decide +kernel))
set_option maxRecDepth 20000 in
theorem gX0_step_X0_requireWithin : GoodIn wsX0_step (va_wsS RX0 51 yX0_requireWithin wsX0_requireWithin) := goodIn_app (goodIn_of _ (by decide +kernel)) ggX0_step_X0_requireWithin
set_option maxRecDepth 20000 in
theorem ggX0_step_X0_shareCurrents : GoodIn wsX0_step wsX0_shareCurrents := goodIn_r _ [12, 13, 14, 15, 16, 5, 17, 18, 19, 20, 21, 22, 23, 24, 25, 26, 27, 28, 29, 30, 31, 32, 33, 34, 35, 2, 36, 37, 38, 39, 40, 41, 42, 43, 44, 45, 46, 47, 48, 49, 50, 51, 52, 53, 54, 55, 56, 57, 58, 59, 60, 61, 62, 63, 64, 65, 66, 67, 68, 69, 70, 71, 72, 73, 74, 75, 76, 77, 78, 79, 80, 81, 82, 83, 84, 85, 86, 87, 88, 89, 90, 91, 92, 93, 94, 95, 96, 97, 98, 99, 100, 101, 102, 103, 104, 105, 106, 107, 112, 113, 114, 115, 116, 117, 118, 119, 120, 121, 122, 123, 124, 125, 126, 127] (by decide +kernel) (by decide +kernel)
set_option maxRecDepth 20000 in
theorem gX0_step_X0_shareCurrents : GoodIn wsX0_step (wsV RX0 99 RX0 yX0_shareCurrents wsX0_shareCurrents) := goodIn_app (goodIn_of _ (by decide +kernel)) ggX0_step_X0_shareCurrents
set_option maxRecDepth 20000 in
theorem ggX0_step_X0_takeWhatIsGiven : GoodIn wsX0_step wsX0_takeWhatIsGiven := goodIn_r _ [111, 18, 19, 26, 27, 28, 29, 30, 1, 36, 37, 38, 5, 39, 40, 112, 113, 114, 115, 116, 117, 118, 119, 120, 121, 122, 123, 124, 125, 126, 127] (by decide +kernel) (by decide +kernel)
set_option maxRecDepth 20000 in
theorem gX0_step_X0_takeWhatIsGiven : GoodIn wsX0_step (wsV RX0 102 RX0 yX0_takeWhatIsGiven wsX0_takeWhatIsGiven) := goodIn_app (goodIn_of _ (by decide +kernel)) ggX0_step_X0_takeWhatIsGiven
theorem dX0_step_0 : decode cX0_step 0 = .ok (.iload_n 1, 1) := by decide +kernel
theorem dX0_step_1 : decode cX0_step 1 = .ok (.iconst 1, 1) := by decide +kernel
theorem dX0_step_2 : decode cX0_step 2 = .ok (.bipush 50, 2) := by decide +kernel
theorem dX0_step_4 : decode cX0_step 4 = .ok (.invokestatic 51, 3) := by decide +kernel
theorem dX0_step_7 : decode cX0_step 7 = .ok (.aload_n 0, 1) := by decide +kernel
theorem dX0_step_8 : decode cX0_step 8 = .ok (.getfield 96, 3) := by decide +kernel
theorem dX0_step_11 : decode cX0_step 11 = .ok (.istore_n 2, 1) := by decide +kernel
theorem dX0_step_12 : decode cX0_step 12 = .ok (.iconst 0, 1) := by decide +kernel
theorem dX0_step_13 : decode cX0_step 13 = .ok (.istore_n 3, 1) := by decide +kernel
theorem dX0_step_14 : decode cX0_step 14 = .ok (.iload_n 3, 1) := by decide +kernel
theorem dX0_step_15 : decode cX0_step 15 = .ok (.iload_n 1, 1) := by decide +kernel
theorem dX0_step_16 : decode cX0_step 16 = .ok (.if_icmp .ge 27, 3) := by decide +kernel
theorem dX0_step_19 : decode cX0_step 19 = .ok (.aload_n 0, 1) := by decide +kernel
theorem dX0_step_20 : decode cX0_step 20 = .ok (.invokevirtual 99, 3) := by decide +kernel
theorem dX0_step_23 : decode cX0_step 23 = .ok (.aload_n 0, 1) := by decide +kernel
theorem dX0_step_24 : decode cX0_step 24 = .ok (.invokevirtual 102, 3) := by decide +kernel
theorem dX0_step_27 : decode cX0_step 27 = .ok (.aload_n 0, 1) := by decide +kernel
theorem dX0_step_28 : decode cX0_step 28 = .ok (.dup, 1) := by decide +kernel
theorem dX0_step_29 : decode cX0_step 29 = .ok (.getfield 74, 3) := by decide +kernel
theorem dX0_step_32 : decode cX0_step 32 = .ok (.iconst 1, 1) := by decide +kernel
theorem dX0_step_33 : decode cX0_step 33 = .ok (.iadd, 1) := by decide +kernel
theorem dX0_step_34 : decode cX0_step 34 = .ok (.putfield 74, 3) := by decide +kernel
theorem dX0_step_37 : decode cX0_step 37 = .ok (.iinc 3 1, 3) := by decide +kernel
theorem dX0_step_40 : decode cX0_step 40 = .ok (.goto (-26), 3) := by decide +kernel
theorem dX0_step_43 : decode cX0_step 43 = .ok (.aload_n 0, 1) := by decide +kernel
theorem dX0_step_44 : decode cX0_step 44 = .ok (.getfield 96, 3) := by decide +kernel
theorem dX0_step_47 : decode cX0_step 47 = .ok (.iload_n 2, 1) := by decide +kernel
theorem dX0_step_48 : decode cX0_step 48 = .ok (.isub, 1) := by decide +kernel
theorem dX0_step_49 : decode cX0_step 49 = .ok (.ireturn, 1) := by decide +kernel
theorem dX0_time_0 : decode cX0_time 0 = .ok (.aload_n 0, 1) := by decide +kernel
theorem dX0_time_1 : decode cX0_time 1 = .ok (.getfield 74, 3) := by decide +kernel
theorem dX0_time_4 : decode cX0_time 4 = .ok (.ireturn, 1) := by decide +kernel
theorem dX0_points_0 : decode cX0_points 0 = .ok (.aload_n 0, 1) := by decide +kernel
theorem dX0_points_1 : decode cX0_points 1 = .ok (.getfield 55, 3) := by decide +kernel
theorem dX0_points_4 : decode cX0_points 4 = .ok (.ireturn, 1) := by decide +kernel
theorem dX0_taken_0 : decode cX0_taken 0 = .ok (.aload_n 0, 1) := by decide +kernel
theorem dX0_taken_1 : decode cX0_taken 1 = .ok (.getfield 96, 3) := by decide +kernel
theorem dX0_taken_4 : decode cX0_taken 4 = .ok (.ireturn, 1) := by decide +kernel
theorem dX0_served_0 : decode cX0_served 0 = .ok (.aload_n 0, 1) := by decide +kernel
theorem dX0_served_1 : decode cX0_served 1 = .ok (.getfield 84, 3) := by decide +kernel
theorem dX0_served_4 : decode cX0_served 4 = .ok (.ireturn, 1) := by decide +kernel
set_option maxRecDepth 20000 in
theorem ggX0_need_X0_requirePoint : GoodIn wsX0_need wsX0_requirePoint := goodIn_ca (goodIn_r _ [6, 7, 8, 9, 10, 11, 12, 13, 14, 15, 16, 17, 18, 19, 20, 21, 22, 23, 24, 25] (by decide +kernel) (by decide +kernel)) (goodIn_sub (fun _ h => List.mem_cons_of_mem _ (List.mem_append_right _ h)) (by decide +kernel))
set_option maxRecDepth 20000 in
theorem gX0_need_X0_requirePoint : GoodIn wsX0_need (wsV RX0 65 RX0 yX0_requirePoint wsX0_requirePoint) := goodIn_app (goodIn_of _ (by decide +kernel)) ggX0_need_X0_requirePoint
theorem dX0_need_0 : decode cX0_need 0 = .ok (.aload_n 0, 1) := by decide +kernel
theorem dX0_need_1 : decode cX0_need 1 = .ok (.iload_n 1, 1) := by decide +kernel
theorem dX0_need_2 : decode cX0_need 2 = .ok (.invokevirtual 65, 3) := by decide +kernel
theorem dX0_need_5 : decode cX0_need 5 = .ok (.aload_n 0, 1) := by decide +kernel
theorem dX0_need_6 : decode cX0_need 6 = .ok (.getfield 16, 3) := by decide +kernel
theorem dX0_need_9 : decode cX0_need 9 = .ok (.iload_n 1, 1) := by decide +kernel
theorem dX0_need_10 : decode cX0_need 10 = .ok (.iaload, 1) := by decide +kernel
theorem dX0_need_11 : decode cX0_need 11 = .ok (.ireturn, 1) := by decide +kernel
set_option maxRecDepth 20000 in
theorem ggX0_left_X0_requirePoint : GoodIn wsX0_left wsX0_requirePoint := goodIn_ca (goodIn_r _ [5, 6, 7, 8, 24, 25, 26, 27, 28, 29, 30, 31, 32, 33, 34, 35, 36, 37, 38, 39] (by decide +kernel) (by decide +kernel)) (goodIn_sub (fun _ h => List.mem_cons_of_mem _ (List.mem_append_right _ h)) (by decide +kernel))
set_option maxRecDepth 20000 in
theorem gX0_left_X0_requirePoint : GoodIn wsX0_left (wsV RX0 65 RX0 yX0_requirePoint wsX0_requirePoint) := goodIn_app (goodIn_of _ (by decide +kernel)) ggX0_left_X0_requirePoint
set_option maxRecDepth 20000 in
theorem ggX0_left_X0_hasCar : GoodIn wsX0_left wsX0_hasCar := goodIn_r _ [12, 13, 24, 25, 26, 27, 28, 29, 30, 31, 32, 33, 34, 35, 36, 37, 38, 39] (by decide +kernel) (by decide +kernel)
set_option maxRecDepth 20000 in
theorem gX0_left_X0_hasCar : GoodIn wsX0_left (wsV RX0 68 RX0 yX0_hasCar wsX0_hasCar) := goodIn_app (goodIn_of _ (by decide +kernel)) ggX0_left_X0_hasCar
set_option maxRecDepth 20000 in
theorem ggX0_left_X0_stepsLeftAt : GoodIn wsX0_left wsX0_stepsLeftAt := goodIn_r _ [17, 18, 19, 20, 21, 22, 23, 24, 25, 26, 27, 28, 29, 30, 31, 32, 33, 34, 35, 36, 37, 38, 39] (by decide +kernel) (by decide +kernel)
set_option maxRecDepth 20000 in
theorem gX0_left_X0_stepsLeftAt : GoodIn wsX0_left (wsV RX0 93 RX0 yX0_stepsLeftAt wsX0_stepsLeftAt) := goodIn_app (goodIn_of _ (by decide +kernel)) ggX0_left_X0_stepsLeftAt
theorem dX0_left_0 : decode cX0_left 0 = .ok (.aload_n 0, 1) := by decide +kernel
theorem dX0_left_1 : decode cX0_left 1 = .ok (.iload_n 1, 1) := by decide +kernel
theorem dX0_left_2 : decode cX0_left 2 = .ok (.invokevirtual 65, 3) := by decide +kernel
theorem dX0_left_5 : decode cX0_left 5 = .ok (.aload_n 0, 1) := by decide +kernel
theorem dX0_left_6 : decode cX0_left 6 = .ok (.iload_n 1, 1) := by decide +kernel
theorem dX0_left_7 : decode cX0_left 7 = .ok (.invokevirtual 68, 3) := by decide +kernel
theorem dX0_left_10 : decode cX0_left 10 = .ok (.ifCond .eq 11, 3) := by decide +kernel
theorem dX0_left_13 : decode cX0_left 13 = .ok (.aload_n 0, 1) := by decide +kernel
theorem dX0_left_14 : decode cX0_left 14 = .ok (.iload_n 1, 1) := by decide +kernel
theorem dX0_left_15 : decode cX0_left 15 = .ok (.invokevirtual 93, 3) := by decide +kernel
theorem dX0_left_18 : decode cX0_left 18 = .ok (.goto 4, 3) := by decide +kernel
theorem dX0_left_21 : decode cX0_left 21 = .ok (.iconst (-1), 1) := by decide +kernel
theorem dX0_left_22 : decode cX0_left 22 = .ok (.ireturn, 1) := by decide +kernel
set_option maxRecDepth 20000 in
theorem ggX0_laxity_X0_requirePoint : GoodIn wsX0_laxity wsX0_requirePoint := goodIn_ca (goodIn_r _ [5, 6, 7, 8, 51, 52, 53, 54, 55, 56, 57, 58, 59, 60, 61, 62, 63, 64, 65, 66] (by decide +kernel) (by decide +kernel)) (goodIn_sub (fun _ h => List.mem_cons_of_mem _ (List.mem_append_left _ (List.mem_append_right _ h))) (by decide +kernel))
set_option maxRecDepth 20000 in
theorem gX0_laxity_X0_requirePoint : GoodIn wsX0_laxity (wsV RX0 65 RX0 yX0_requirePoint wsX0_requirePoint) := goodIn_app (goodIn_of _ (by decide +kernel)) ggX0_laxity_X0_requirePoint
set_option maxRecDepth 20000 in
theorem ggX0_laxity_X0_requireCar : GoodIn wsX0_laxity wsX0_requireCar := goodIn_ca (goodIn_r _ [12, 13, 14, 15, 16, 17, 4, 18, 19, 51, 52, 53, 54, 55, 56, 57, 58, 59, 60, 61, 62, 63, 64, 65, 66] (by decide +kernel) (by decide +kernel)) (goodIn_sub (fun _ h => List.mem_cons_of_mem _ (List.mem_append_right _ h)) (by decide +kernel))
set_option maxRecDepth 20000 in
theorem gX0_laxity_X0_requireCar : GoodIn wsX0_laxity (wsV RX0 81 RX0 yX0_requireCar wsX0_requireCar) := goodIn_app (goodIn_of _ (by decide +kernel)) ggX0_laxity_X0_requireCar
set_option maxRecDepth 20000 in
theorem ggX0_laxity_X0_laxityAt : GoodIn wsX0_laxity wsX0_laxityAt := goodIn_r _ [23, 19, 24, 25, 26, 4, 27, 28, 29, 30, 31, 32, 33, 34, 35, 36, 37, 38, 39, 40, 41, 42, 43, 44, 45, 46, 47, 48, 49, 50, 51, 52, 53, 54, 55, 56, 57, 58, 59, 60, 61, 62, 63, 64, 65, 66] (by decide +kernel) (by decide +kernel)
set_option maxRecDepth 20000 in
theorem gX0_laxity_X0_laxityAt : GoodIn wsX0_laxity (wsV RX0 77 RX0 yX0_laxityAt wsX0_laxityAt) := goodIn_app (goodIn_of _ (by decide +kernel)) ggX0_laxity_X0_laxityAt
theorem dX0_laxity_0 : decode cX0_laxity 0 = .ok (.aload_n 0, 1) := by decide +kernel
theorem dX0_laxity_1 : decode cX0_laxity 1 = .ok (.iload_n 1, 1) := by decide +kernel
theorem dX0_laxity_2 : decode cX0_laxity 2 = .ok (.invokevirtual 65, 3) := by decide +kernel
theorem dX0_laxity_5 : decode cX0_laxity 5 = .ok (.aload_n 0, 1) := by decide +kernel
theorem dX0_laxity_6 : decode cX0_laxity 6 = .ok (.iload_n 1, 1) := by decide +kernel
theorem dX0_laxity_7 : decode cX0_laxity 7 = .ok (.invokevirtual 81, 3) := by decide +kernel
theorem dX0_laxity_10 : decode cX0_laxity 10 = .ok (.aload_n 0, 1) := by decide +kernel
theorem dX0_laxity_11 : decode cX0_laxity 11 = .ok (.iload_n 1, 1) := by decide +kernel
theorem dX0_laxity_12 : decode cX0_laxity 12 = .ok (.invokevirtual 77, 3) := by decide +kernel
theorem dX0_laxity_15 : decode cX0_laxity 15 = .ok (.ireturn, 1) := by decide +kernel
set_option maxRecDepth 20000 in
theorem ggX0_reach_X0_requirePoint : GoodIn wsX0_reach wsX0_requirePoint := goodIn_ca (goodIn_r _ [5, 6, 7, 8, 38, 39, 40, 41, 42, 43, 44, 45, 46, 47, 48, 49, 50, 51, 52, 53] (by decide +kernel) (by decide +kernel)) (goodIn_sub (fun _ h => List.mem_cons_of_mem _ (List.mem_append_right _ h)) (by decide +kernel))
set_option maxRecDepth 20000 in
theorem gX0_reach_X0_requirePoint : GoodIn wsX0_reach (wsV RX0 65 RX0 yX0_requirePoint wsX0_requirePoint) := goodIn_app (goodIn_of _ (by decide +kernel)) ggX0_reach_X0_requirePoint
set_option maxRecDepth 20000 in
theorem ggX0_reach_X0_reachAt : GoodIn wsX0_reach wsX0_reachAt := goodIn_r _ [12, 13, 14, 15, 16, 17, 18, 19, 20, 4, 21, 22, 23, 24, 25, 26, 27, 28, 29, 30, 31, 32, 33, 34, 35, 36, 37, 38, 39, 40, 41, 42, 43, 44, 45, 46, 47, 48, 49, 50, 51, 52, 53] (by decide +kernel) (by decide +kernel)
set_option maxRecDepth 20000 in
theorem gX0_reach_X0_reachAt : GoodIn wsX0_reach (wsV RX0 105 RX0 yX0_reachAt wsX0_reachAt) := goodIn_app (goodIn_of _ (by decide +kernel)) ggX0_reach_X0_reachAt
theorem dX0_reach_0 : decode cX0_reach 0 = .ok (.aload_n 0, 1) := by decide +kernel
theorem dX0_reach_1 : decode cX0_reach 1 = .ok (.iload_n 1, 1) := by decide +kernel
theorem dX0_reach_2 : decode cX0_reach 2 = .ok (.invokevirtual 65, 3) := by decide +kernel
theorem dX0_reach_5 : decode cX0_reach 5 = .ok (.aload_n 0, 1) := by decide +kernel
theorem dX0_reach_6 : decode cX0_reach 6 = .ok (.iload_n 1, 1) := by decide +kernel
theorem dX0_reach_7 : decode cX0_reach 7 = .ok (.invokevirtual 105, 3) := by decide +kernel
theorem dX0_reach_10 : decode cX0_reach 10 = .ok (.ireturn, 1) := by decide +kernel
set_option maxRecDepth 20000 in
theorem ggX0_current_X0_requirePoint : GoodIn wsX0_current wsX0_requirePoint := goodIn_ca (goodIn_r _ [6, 7, 8, 9, 108, 109, 110, 111, 112, 113, 114, 115, 116, 117, 118, 119, 120, 121, 122, 123] (by decide +kernel) (by decide +kernel)) (goodIn_sub (fun _ h => List.mem_cons_of_mem _ (List.mem_append_right _ h)) (by decide +kernel))
set_option maxRecDepth 20000 in
theorem gX0_current_X0_requirePoint : GoodIn wsX0_current (wsV RX0 65 RX0 yX0_requirePoint wsX0_requirePoint) := goodIn_app (goodIn_of _ (by decide +kernel)) ggX0_current_X0_requirePoint
set_option maxRecDepth 20000 in
theorem ggX0_current_X0_shareCurrents : GoodIn wsX0_current wsX0_shareCurrents := goodIn_r _ [13, 14, 15, 16, 17, 5, 18, 9, 1, 19, 20, 21, 22, 23, 24, 25, 26, 27, 28, 29, 30, 31, 32, 33, 34, 35, 36, 37, 38, 39, 40, 41, 42, 43, 44, 45, 46, 47, 48, 49, 50, 51, 52, 53, 54, 55, 56, 57, 58, 59, 60, 61, 62, 63, 64, 65, 66, 67, 68, 69, 70, 71, 72, 73, 74, 75, 76, 77, 78, 79, 80, 81, 82, 83, 84, 85, 86, 87, 88, 89, 90, 91, 92, 93, 94, 95, 96, 97, 98, 99, 100, 101, 102, 103, 104, 105, 106, 107, 108, 109, 110, 111, 112, 113, 114, 115, 116, 117, 118, 119, 120, 121, 122, 123] (by decide +kernel) (by decide +kernel)
set_option maxRecDepth 20000 in
theorem gX0_current_X0_shareCurrents : GoodIn wsX0_current (wsV RX0 99 RX0 yX0_shareCurrents wsX0_shareCurrents) := goodIn_app (goodIn_of _ (by decide +kernel)) ggX0_current_X0_shareCurrents
theorem dX0_current_0 : decode cX0_current 0 = .ok (.aload_n 0, 1) := by decide +kernel
theorem dX0_current_1 : decode cX0_current 1 = .ok (.iload_n 1, 1) := by decide +kernel
theorem dX0_current_2 : decode cX0_current 2 = .ok (.invokevirtual 65, 3) := by decide +kernel
theorem dX0_current_5 : decode cX0_current 5 = .ok (.aload_n 0, 1) := by decide +kernel
theorem dX0_current_6 : decode cX0_current 6 = .ok (.invokevirtual 99, 3) := by decide +kernel
theorem dX0_current_9 : decode cX0_current 9 = .ok (.aload_n 0, 1) := by decide +kernel
theorem dX0_current_10 : decode cX0_current 10 = .ok (.getfield 28, 3) := by decide +kernel
theorem dX0_current_13 : decode cX0_current 13 = .ok (.iload_n 1, 1) := by decide +kernel
theorem dX0_current_14 : decode cX0_current 14 = .ok (.iaload, 1) := by decide +kernel
theorem dX0_current_15 : decode cX0_current 15 = .ok (.ireturn, 1) := by decide +kernel
set_option maxRecDepth 20000 in
theorem ggX0_load_X0_requirePhase : GoodIn wsX0_load wsX0_requirePhase := goodIn_ca (goodIn_r _ [5, 6, 7] (by decide +kernel) (by decide +kernel)) (goodIn_sub (fun _ h => List.mem_cons_of_mem _ (List.mem_append_right _ h)) (by decide +kernel))
set_option maxRecDepth 20000 in
theorem gX0_load_X0_requirePhase : GoodIn wsX0_load (va_wsS RX0 47 yX0_requirePhase wsX0_requirePhase) := goodIn_app (goodIn_of _ (by decide +kernel)) ggX0_load_X0_requirePhase
set_option maxRecDepth 20000 in
theorem ggX0_load_X0_shareCurrents : GoodIn wsX0_load wsX0_shareCurrents := goodIn_r _ [11, 12, 13, 14, 15, 4, 16, 17, 18, 19, 1, 20, 21, 22, 23, 24, 25, 26, 27, 28, 29, 30, 31, 32, 33, 34, 35, 36, 37, 38, 39, 40, 41, 42, 43, 44, 45, 46, 47, 48, 49, 50, 51, 52, 53, 54, 55, 56, 57, 58, 59, 60, 61, 62, 63, 64, 65, 66, 67, 68, 69, 70, 71, 72, 73, 74, 75, 76, 77, 78, 79, 80, 81, 82, 83, 84, 85, 86, 87, 88, 89, 90, 91, 92, 93, 94, 95, 96, 97, 98, 99, 100, 101, 102, 103, 104, 105, 106, 107, 108, 109, 110, 111, 112, 113, 114, 115, 116, 117, 118, 119, 120, 121, 122] (by decide +kernel) (by decide +kernel)
set_option maxRecDepth 20000 in
theorem gX0_load_X0_shareCurrents : GoodIn wsX0_load (wsV RX0 99 RX0 yX0_shareCurrents wsX0_shareCurrents) := goodIn_app (goodIn_of _ (by decide +kernel)) ggX0_load_X0_shareCurrents
theorem dX0_load_0 : decode cX0_load 0 = .ok (.iload_n 1, 1) := by decide +kernel
theorem dX0_load_1 : decode cX0_load 1 = .ok (.invokestatic 47, 3) := by decide +kernel
theorem dX0_load_4 : decode cX0_load 4 = .ok (.aload_n 0, 1) := by decide +kernel
theorem dX0_load_5 : decode cX0_load 5 = .ok (.invokevirtual 99, 3) := by decide +kernel
theorem dX0_load_8 : decode cX0_load 8 = .ok (.aload_n 0, 1) := by decide +kernel
theorem dX0_load_9 : decode cX0_load 9 = .ok (.getfield 34, 3) := by decide +kernel
theorem dX0_load_12 : decode cX0_load 12 = .ok (.iload_n 1, 1) := by decide +kernel
theorem dX0_load_13 : decode cX0_load 13 = .ok (.iaload, 1) := by decide +kernel
theorem dX0_load_14 : decode cX0_load 14 = .ok (.ireturn, 1) := by decide +kernel
set_option maxRecDepth 20000 in
theorem ggX0_imbalance_X0_shareCurrents : GoodIn wsX0_imbalance wsX0_shareCurrents := goodIn_r _ [5, 6, 7, 8, 9, 4, 10, 11, 12, 13, 14, 15, 16, 17, 18, 19, 20, 21, 22, 23, 24, 25, 26, 27, 28, 29, 30, 31, 32, 33, 34, 35, 36, 37, 38, 39, 40, 41, 42, 43, 44, 45, 46, 47, 48, 49, 50, 51, 52, 53, 54, 55, 56, 57, 58, 59, 60, 61, 62, 63, 64, 65, 66, 67, 68, 69, 70, 71, 72, 73, 74, 75, 76, 77, 78, 79, 80, 81, 82, 83, 84, 85, 86, 87, 88, 89, 90, 91, 92, 93, 94, 95, 96, 97, 98, 99, 100, 101, 102, 103, 104, 105, 106, 107, 108, 109, 110, 111, 112, 113, 114, 115, 116, 117] (by decide +kernel) (by decide +kernel)
set_option maxRecDepth 20000 in
theorem gX0_imbalance_X0_shareCurrents : GoodIn wsX0_imbalance (wsV RX0 99 RX0 yX0_shareCurrents wsX0_shareCurrents) := goodIn_app (goodIn_of _ (by decide +kernel)) ggX0_imbalance_X0_shareCurrents
set_option maxRecDepth 20000 in
theorem ggX0_imbalance_X0_differenceOfLoads : GoodIn wsX0_imbalance wsX0_differenceOfLoads := goodIn_r _ [93, 14, 82, 83, 22, 84, 20, 21, 23, 102, 103, 104, 105, 106, 107, 108, 109, 110, 111, 112, 113, 114, 115, 116, 117] (by decide +kernel) (by decide +kernel)
set_option maxRecDepth 20000 in
theorem gX0_imbalance_X0_differenceOfLoads : GoodIn wsX0_imbalance (wsV RX0 108 RX0 yX0_differenceOfLoads wsX0_differenceOfLoads) := goodIn_app (goodIn_of _ (by decide +kernel)) ggX0_imbalance_X0_differenceOfLoads
theorem dX0_imbalance_0 : decode cX0_imbalance 0 = .ok (.aload_n 0, 1) := by decide +kernel
theorem dX0_imbalance_1 : decode cX0_imbalance 1 = .ok (.invokevirtual 99, 3) := by decide +kernel
theorem dX0_imbalance_4 : decode cX0_imbalance 4 = .ok (.aload_n 0, 1) := by decide +kernel
theorem dX0_imbalance_5 : decode cX0_imbalance 5 = .ok (.invokevirtual 108, 3) := by decide +kernel
theorem dX0_imbalance_8 : decode cX0_imbalance 8 = .ok (.ireturn, 1) := by decide +kernel
set_option maxRecDepth 20000 in
theorem ggX0_held_X0_shareCurrents : GoodIn wsX0_held wsX0_shareCurrents := goodIn_r _ [8, 9, 10, 11, 12, 7, 13, 1, 2, 3, 14, 15, 16, 17, 18, 19, 20, 21, 22, 23, 24, 25, 26, 27, 28, 29, 30, 31, 32, 33, 34, 35, 36, 37, 38, 39, 40, 41, 42, 43, 44, 45, 46, 47, 48, 49, 50, 51, 52, 53, 54, 55, 56, 57, 58, 59, 60, 61, 62, 63, 64, 65, 66, 67, 68, 69, 70, 71, 72, 73, 74, 75, 76, 77, 78, 79, 80, 81, 82, 83, 84, 85, 86, 87, 88, 89, 90, 91, 92, 93, 94, 95, 96, 97, 98, 99, 100, 101, 102, 103, 104, 105, 106, 107, 108, 109, 110, 111, 112, 113, 114, 115, 116, 117] (by decide +kernel) (by decide +kernel)
set_option maxRecDepth 20000 in
theorem gX0_held_X0_shareCurrents : GoodIn wsX0_held (wsV RX0 99 RX0 yX0_shareCurrents wsX0_shareCurrents) := goodIn_app (goodIn_of _ (by decide +kernel)) ggX0_held_X0_shareCurrents
theorem dX0_held_0 : decode cX0_held 0 = .ok (.aload_n 0, 1) := by decide +kernel
theorem dX0_held_1 : decode cX0_held 1 = .ok (.invokevirtual 99, 3) := by decide +kernel
theorem dX0_held_4 : decode cX0_held 4 = .ok (.iconst 0, 1) := by decide +kernel
theorem dX0_held_5 : decode cX0_held 5 = .ok (.istore_n 1, 1) := by decide +kernel
theorem dX0_held_6 : decode cX0_held 6 = .ok (.iconst 0, 1) := by decide +kernel
theorem dX0_held_7 : decode cX0_held 7 = .ok (.istore_n 2, 1) := by decide +kernel
theorem dX0_held_8 : decode cX0_held 8 = .ok (.iload_n 2, 1) := by decide +kernel
theorem dX0_held_9 : decode cX0_held 9 = .ok (.aload_n 0, 1) := by decide +kernel
theorem dX0_held_10 : decode cX0_held 10 = .ok (.getfield 55, 3) := by decide +kernel
theorem dX0_held_13 : decode cX0_held 13 = .ok (.if_icmp .ge 30, 3) := by decide +kernel
theorem dX0_held_16 : decode cX0_held 16 = .ok (.aload_n 0, 1) := by decide +kernel
theorem dX0_held_17 : decode cX0_held 17 = .ok (.getfield 28, 3) := by decide +kernel
theorem dX0_held_20 : decode cX0_held 20 = .ok (.iload_n 2, 1) := by decide +kernel
theorem dX0_held_21 : decode cX0_held 21 = .ok (.iaload, 1) := by decide +kernel
theorem dX0_held_22 : decode cX0_held 22 = .ok (.aload_n 0, 1) := by decide +kernel
theorem dX0_held_23 : decode cX0_held 23 = .ok (.getfield 25, 3) := by decide +kernel
theorem dX0_held_26 : decode cX0_held 26 = .ok (.iload_n 2, 1) := by decide +kernel
theorem dX0_held_27 : decode cX0_held 27 = .ok (.iaload, 1) := by decide +kernel
theorem dX0_held_28 : decode cX0_held 28 = .ok (.if_icmp .ge 9, 3) := by decide +kernel
theorem dX0_held_31 : decode cX0_held 31 = .ok (.iload_n 1, 1) := by decide +kernel
theorem dX0_held_32 : decode cX0_held 32 = .ok (.iconst 1, 1) := by decide +kernel
theorem dX0_held_33 : decode cX0_held 33 = .ok (.iload_n 2, 1) := by decide +kernel
theorem dX0_held_34 : decode cX0_held 34 = .ok (.ishl, 1) := by decide +kernel
theorem dX0_held_35 : decode cX0_held 35 = .ok (.ior, 1) := by decide +kernel
theorem dX0_held_36 : decode cX0_held 36 = .ok (.istore_n 1, 1) := by decide +kernel
theorem dX0_held_37 : decode cX0_held 37 = .ok (.iinc 2 1, 3) := by decide +kernel
theorem dX0_held_40 : decode cX0_held 40 = .ok (.goto (-32), 3) := by decide +kernel
theorem dX0_held_43 : decode cX0_held 43 = .ok (.iload_n 1, 1) := by decide +kernel
theorem dX0_held_44 : decode cX0_held 44 = .ok (.ireturn, 1) := by decide +kernel
set_option maxRecDepth 20000 in
theorem ggX0_fairLevel_X0_requirePhase : GoodIn wsX0_fairLevel wsX0_requirePhase := goodIn_ca (goodIn_r _ [5, 6, 7] (by decide +kernel) (by decide +kernel)) (goodIn_sub (fun _ h => List.mem_cons_of_mem _ (List.mem_append_right _ h)) (by decide +kernel))
set_option maxRecDepth 20000 in
theorem gX0_fairLevel_X0_requirePhase : GoodIn wsX0_fairLevel (va_wsS RX0 47 yX0_requirePhase wsX0_requirePhase) := goodIn_app (goodIn_of _ (by decide +kernel)) ggX0_fairLevel_X0_requirePhase
set_option maxRecDepth 20000 in
theorem ggX0_fairLevel_X0_shareCurrents : GoodIn wsX0_fairLevel wsX0_shareCurrents := goodIn_r _ [11, 12, 13, 14, 15, 4, 16, 17, 18, 19, 20, 21, 22, 23, 24, 25, 26, 27, 28, 29, 30, 31, 32, 33, 34, 35, 36, 37, 38, 39, 40, 41, 42, 43, 44, 45, 46, 47, 48, 49, 50, 51, 52, 53, 54, 55, 56, 57, 58, 59, 60, 61, 1, 62, 63, 64, 65, 66, 67, 68, 69, 70, 71, 72, 73, 74, 75, 76, 77, 78, 79, 80, 81, 82, 83, 84, 85, 86, 87, 88, 89, 90, 91, 92, 93, 94, 95, 96, 97, 98, 99, 100, 101, 102, 103, 104, 105, 106, 115, 116, 117, 118, 119, 120, 121, 122, 123, 124, 125, 126, 127, 128, 129, 130] (by decide +kernel) (by decide +kernel)
set_option maxRecDepth 20000 in
theorem gX0_fairLevel_X0_shareCurrents : GoodIn wsX0_fairLevel (wsV RX0 99 RX0 yX0_shareCurrents wsX0_shareCurrents) := goodIn_app (goodIn_of _ (by decide +kernel)) ggX0_fairLevel_X0_shareCurrents
set_option maxRecDepth 20000 in
theorem ggX0_fairLevel_X0_givenAtAllPhases : GoodIn wsX0_fairLevel wsX0_givenAtAllPhases := goodIn_r _ [110, 17, 40, 18, 115, 116, 117, 118, 119, 120, 121, 122, 123, 124, 125, 126, 127, 128, 129, 130] (by decide +kernel) (by decide +kernel)
set_option maxRecDepth 20000 in
theorem gX0_fairLevel_X0_givenAtAllPhases : GoodIn wsX0_fairLevel (wsV RX0 112 RX0 yX0_givenAtAllPhases wsX0_givenAtAllPhases) := goodIn_app (goodIn_of _ (by decide +kernel)) ggX0_fairLevel_X0_givenAtAllPhases
set_option maxRecDepth 20000 in
theorem ggX0_fairLevel_X0_usedAtLevel : GoodIn wsX0_fairLevel wsX0_usedAtLevel := goodIn_r _ [114, 17, 40, 19, 26, 27, 28, 29, 115, 116, 117, 118, 119, 120, 121, 122, 123, 124, 125, 126, 127, 128, 129, 130] (by decide +kernel) (by decide +kernel)
set_option maxRecDepth 20000 in
theorem gX0_fairLevel_X0_usedAtLevel : GoodIn wsX0_fairLevel (wsV RX0 115 RX0 yX0_usedAtLevel wsX0_usedAtLevel) := goodIn_app (goodIn_of _ (by decide +kernel)) ggX0_fairLevel_X0_usedAtLevel
theorem dX0_fairLevel_0 : decode cX0_fairLevel 0 = .ok (.iload_n 1, 1) := by decide +kernel
theorem dX0_fairLevel_1 : decode cX0_fairLevel 1 = .ok (.invokestatic 47, 3) := by decide +kernel
theorem dX0_fairLevel_4 : decode cX0_fairLevel 4 = .ok (.aload_n 0, 1) := by decide +kernel
theorem dX0_fairLevel_5 : decode cX0_fairLevel 5 = .ok (.invokevirtual 99, 3) := by decide +kernel
theorem dX0_fairLevel_8 : decode cX0_fairLevel 8 = .ok (.aload_n 0, 1) := by decide +kernel
theorem dX0_fairLevel_9 : decode cX0_fairLevel 9 = .ok (.getfield 37, 3) := by decide +kernel
theorem dX0_fairLevel_12 : decode cX0_fairLevel 12 = .ok (.iload_n 1, 1) := by decide +kernel
theorem dX0_fairLevel_13 : decode cX0_fairLevel 13 = .ok (.iaload, 1) := by decide +kernel
theorem dX0_fairLevel_14 : decode cX0_fairLevel 14 = .ok (.aload_n 0, 1) := by decide +kernel
theorem dX0_fairLevel_15 : decode cX0_fairLevel 15 = .ok (.invokevirtual 112, 3) := by decide +kernel
theorem dX0_fairLevel_18 : decode cX0_fairLevel 18 = .ok (.isub, 1) := by decide +kernel
theorem dX0_fairLevel_19 : decode cX0_fairLevel 19 = .ok (.istore_n 2, 1) := by decide +kernel
theorem dX0_fairLevel_20 : decode cX0_fairLevel 20 = .ok (.iconst 0, 1) := by decide +kernel
theorem dX0_fairLevel_21 : decode cX0_fairLevel 21 = .ok (.istore_n 3, 1) := by decide +kernel
theorem dX0_fairLevel_22 : decode cX0_fairLevel 22 = .ok (.iload_n 3, 1) := by decide +kernel
theorem dX0_fairLevel_23 : decode cX0_fairLevel 23 = .ok (.bipush 32, 2) := by decide +kernel
theorem dX0_fairLevel_25 : decode cX0_fairLevel 25 = .ok (.if_icmp .ge 62, 3) := by decide +kernel
theorem dX0_fairLevel_28 : decode cX0_fairLevel 28 = .ok (.aload_n 0, 1) := by decide +kernel
theorem dX0_fairLevel_29 : decode cX0_fairLevel 29 = .ok (.iload_n 1, 1) := by decide +kernel
theorem dX0_fairLevel_30 : decode cX0_fairLevel 30 = .ok (.iload_n 3, 1) := by decide +kernel
theorem dX0_fairLevel_31 : decode cX0_fairLevel 31 = .ok (.invokevirtual 115, 3) := by decide +kernel
theorem dX0_fairLevel_34 : decode cX0_fairLevel 34 = .ok (.istore 4, 2) := by decide +kernel
theorem dX0_fairLevel_36 : decode cX0_fairLevel 36 = .ok (.aload_n 0, 1) := by decide +kernel
theorem dX0_fairLevel_37 : decode cX0_fairLevel 37 = .ok (.iload_n 1, 1) := by decide +kernel
theorem dX0_fairLevel_38 : decode cX0_fairLevel 38 = .ok (.iload_n 3, 1) := by decide +kernel
theorem dX0_fairLevel_39 : decode cX0_fairLevel 39 = .ok (.iconst 1, 1) := by decide +kernel
theorem dX0_fairLevel_40 : decode cX0_fairLevel 40 = .ok (.iadd, 1) := by decide +kernel
theorem dX0_fairLevel_41 : decode cX0_fairLevel 41 = .ok (.invokevirtual 115, 3) := by decide +kernel
theorem dX0_fairLevel_44 : decode cX0_fairLevel 44 = .ok (.iload 4, 2) := by decide +kernel
theorem dX0_fairLevel_46 : decode cX0_fairLevel 46 = .ok (.isub, 1) := by decide +kernel
theorem dX0_fairLevel_47 : decode cX0_fairLevel 47 = .ok (.istore 5, 2) := by decide +kernel
theorem dX0_fairLevel_49 : decode cX0_fairLevel 49 = .ok (.iload 5, 2) := by decide +kernel
theorem dX0_fairLevel_51 : decode cX0_fairLevel 51 = .ok (.ifCond .le 30, 3) := by decide +kernel
theorem dX0_fairLevel_54 : decode cX0_fairLevel 54 = .ok (.iload 4, 2) := by decide +kernel
theorem dX0_fairLevel_56 : decode cX0_fairLevel 56 = .ok (.iload 5, 2) := by decide +kernel
theorem dX0_fairLevel_58 : decode cX0_fairLevel 58 = .ok (.iadd, 1) := by decide +kernel
theorem dX0_fairLevel_59 : decode cX0_fairLevel 59 = .ok (.iload_n 2, 1) := by decide +kernel
theorem dX0_fairLevel_60 : decode cX0_fairLevel 60 = .ok (.if_icmp .le 21, 3) := by decide +kernel
theorem dX0_fairLevel_63 : decode cX0_fairLevel 63 = .ok (.sipush 1000, 3) := by decide +kernel
theorem dX0_fairLevel_66 : decode cX0_fairLevel 66 = .ok (.iload_n 3, 1) := by decide +kernel
theorem dX0_fairLevel_67 : decode cX0_fairLevel 67 = .ok (.imul, 1) := by decide +kernel
theorem dX0_fairLevel_68 : decode cX0_fairLevel 68 = .ok (.sipush 1000, 3) := by decide +kernel
theorem dX0_fairLevel_71 : decode cX0_fairLevel 71 = .ok (.iload_n 2, 1) := by decide +kernel
theorem dX0_fairLevel_72 : decode cX0_fairLevel 72 = .ok (.iload 4, 2) := by decide +kernel
theorem dX0_fairLevel_74 : decode cX0_fairLevel 74 = .ok (.isub, 1) := by decide +kernel
theorem dX0_fairLevel_75 : decode cX0_fairLevel 75 = .ok (.imul, 1) := by decide +kernel
theorem dX0_fairLevel_76 : decode cX0_fairLevel 76 = .ok (.iload 5, 2) := by decide +kernel
theorem dX0_fairLevel_78 : decode cX0_fairLevel 78 = .ok (.idiv, 1) := by decide +kernel
theorem dX0_fairLevel_79 : decode cX0_fairLevel 79 = .ok (.iadd, 1) := by decide +kernel
theorem dX0_fairLevel_80 : decode cX0_fairLevel 80 = .ok (.ireturn, 1) := by decide +kernel
theorem dX0_fairLevel_81 : decode cX0_fairLevel 81 = .ok (.iinc 3 1, 3) := by decide +kernel
theorem dX0_fairLevel_84 : decode cX0_fairLevel 84 = .ok (.goto (-62), 3) := by decide +kernel
theorem dX0_fairLevel_87 : decode cX0_fairLevel 87 = .ok (.iconst (-1), 1) := by decide +kernel
theorem dX0_fairLevel_88 : decode cX0_fairLevel 88 = .ok (.ireturn, 1) := by decide +kernel
set_option maxRecDepth 20000 in
theorem ggX0_canBeReady_X0_laxityAt : GoodIn wsX0_canBeReady wsX0_laxityAt := goodIn_r _ [7, 2, 8, 9, 10, 6, 11, 12, 13, 14, 15, 16, 17, 18, 19, 20, 21, 22, 23, 24, 25, 26, 27, 28, 29, 30, 31, 32, 33, 34, 35, 36, 37, 38, 39, 40, 41, 42, 43, 44, 45, 46, 47, 48, 49, 50] (by decide +kernel) (by decide +kernel)
set_option maxRecDepth 20000 in
theorem gX0_canBeReady_X0_laxityAt : GoodIn wsX0_canBeReady (wsV RX0 77 RX0 yX0_laxityAt wsX0_laxityAt) := goodIn_app (goodIn_of _ (by decide +kernel)) ggX0_canBeReady_X0_laxityAt
theorem dX0_canBeReady_0 : decode cX0_canBeReady 0 = .ok (.iconst 0, 1) := by decide +kernel
theorem dX0_canBeReady_1 : decode cX0_canBeReady 1 = .ok (.istore_n 1, 1) := by decide +kernel
theorem dX0_canBeReady_2 : decode cX0_canBeReady 2 = .ok (.iload_n 1, 1) := by decide +kernel
theorem dX0_canBeReady_3 : decode cX0_canBeReady 3 = .ok (.aload_n 0, 1) := by decide +kernel
theorem dX0_canBeReady_4 : decode cX0_canBeReady 4 = .ok (.getfield 55, 3) := by decide +kernel
theorem dX0_canBeReady_7 : decode cX0_canBeReady 7 = .ok (.if_icmp .ge 28, 3) := by decide +kernel
theorem dX0_canBeReady_10 : decode cX0_canBeReady 10 = .ok (.aload_n 0, 1) := by decide +kernel
theorem dX0_canBeReady_11 : decode cX0_canBeReady 11 = .ok (.getfield 16, 3) := by decide +kernel
theorem dX0_canBeReady_14 : decode cX0_canBeReady 14 = .ok (.iload_n 1, 1) := by decide +kernel
theorem dX0_canBeReady_15 : decode cX0_canBeReady 15 = .ok (.iaload, 1) := by decide +kernel
theorem dX0_canBeReady_16 : decode cX0_canBeReady 16 = .ok (.ifCond .le 13, 3) := by decide +kernel
theorem dX0_canBeReady_19 : decode cX0_canBeReady 19 = .ok (.aload_n 0, 1) := by decide +kernel
theorem dX0_canBeReady_20 : decode cX0_canBeReady 20 = .ok (.iload_n 1, 1) := by decide +kernel
theorem dX0_canBeReady_21 : decode cX0_canBeReady 21 = .ok (.invokevirtual 77, 3) := by decide +kernel
theorem dX0_canBeReady_24 : decode cX0_canBeReady 24 = .ok (.ifCond .ge 5, 3) := by decide +kernel
theorem dX0_canBeReady_27 : decode cX0_canBeReady 27 = .ok (.iconst 0, 1) := by decide +kernel
theorem dX0_canBeReady_28 : decode cX0_canBeReady 28 = .ok (.ireturn, 1) := by decide +kernel
theorem dX0_canBeReady_29 : decode cX0_canBeReady 29 = .ok (.iinc 1 1, 3) := by decide +kernel
theorem dX0_canBeReady_32 : decode cX0_canBeReady 32 = .ok (.goto (-30), 3) := by decide +kernel
theorem dX0_canBeReady_35 : decode cX0_canBeReady 35 = .ok (.iconst 1, 1) := by decide +kernel
theorem dX0_canBeReady_36 : decode cX0_canBeReady 36 = .ok (.ireturn, 1) := by decide +kernel
theorem dX0_requireWithin_0 : decode cX0_requireWithin 0 = .ok (.iload_n 0, 1) := by decide +kernel
theorem dX0_requireWithin_1 : decode cX0_requireWithin 1 = .ok (.iload_n 1, 1) := by decide +kernel
theorem dX0_requireWithin_2 : decode cX0_requireWithin 2 = .ok (.if_icmp .lt 8, 3) := by decide +kernel
theorem dX0_requireWithin_5 : decode cX0_requireWithin 5 = .ok (.iload_n 0, 1) := by decide +kernel
theorem dX0_requireWithin_6 : decode cX0_requireWithin 6 = .ok (.iload_n 2, 1) := by decide +kernel
theorem dX0_requireWithin_7 : decode cX0_requireWithin 7 = .ok (.if_icmp .le 13, 3) := by decide +kernel
theorem dX0_requireWithin_10 : decode cX0_requireWithin 10 = .ok (.new 118, 3) := by decide +kernel
theorem dX0_requireWithin_13 : decode cX0_requireWithin 13 = .ok (.dup, 1) := by decide +kernel
theorem dX0_requireWithin_14 : decode cX0_requireWithin 14 = .ok (.ldc 120, 2) := by decide +kernel
theorem dX0_requireWithin_16 : decode cX0_requireWithin 16 = .ok (.invokespecial 122, 3) := by decide +kernel
theorem dX0_requireWithin_19 : decode cX0_requireWithin 19 = .ok (.athrow, 1) := by decide +kernel
theorem dX0_requireWithin_20 : decode cX0_requireWithin 20 = .ok (.return_, 1) := by decide +kernel
theorem dX0_requirePhase_0 : decode cX0_requirePhase 0 = .ok (.iload_n 0, 1) := by decide +kernel
theorem dX0_requirePhase_1 : decode cX0_requirePhase 1 = .ok (.ifCond .lt 8, 3) := by decide +kernel
theorem dX0_requirePhase_4 : decode cX0_requirePhase 4 = .ok (.iload_n 0, 1) := by decide +kernel
theorem dX0_requirePhase_5 : decode cX0_requirePhase 5 = .ok (.iconst 3, 1) := by decide +kernel
theorem dX0_requirePhase_6 : decode cX0_requirePhase 6 = .ok (.if_icmp .lt 13, 3) := by decide +kernel
theorem dX0_requirePhase_9 : decode cX0_requirePhase 9 = .ok (.new 118, 3) := by decide +kernel
theorem dX0_requirePhase_12 : decode cX0_requirePhase 12 = .ok (.dup, 1) := by decide +kernel
theorem dX0_requirePhase_13 : decode cX0_requirePhase 13 = .ok (.ldc 123, 2) := by decide +kernel
theorem dX0_requirePhase_15 : decode cX0_requirePhase 15 = .ok (.invokespecial 122, 3) := by decide +kernel
theorem dX0_requirePhase_18 : decode cX0_requirePhase 18 = .ok (.athrow, 1) := by decide +kernel
theorem dX0_requirePhase_19 : decode cX0_requirePhase 19 = .ok (.return_, 1) := by decide +kernel
theorem dX0_requirePoint_0 : decode cX0_requirePoint 0 = .ok (.iload_n 1, 1) := by decide +kernel
theorem dX0_requirePoint_1 : decode cX0_requirePoint 1 = .ok (.ifCond .lt 11, 3) := by decide +kernel
theorem dX0_requirePoint_4 : decode cX0_requirePoint 4 = .ok (.iload_n 1, 1) := by decide +kernel
theorem dX0_requirePoint_5 : decode cX0_requirePoint 5 = .ok (.aload_n 0, 1) := by decide +kernel
theorem dX0_requirePoint_6 : decode cX0_requirePoint 6 = .ok (.getfield 55, 3) := by decide +kernel
theorem dX0_requirePoint_9 : decode cX0_requirePoint 9 = .ok (.if_icmp .lt 13, 3) := by decide +kernel
theorem dX0_requirePoint_12 : decode cX0_requirePoint 12 = .ok (.new 125, 3) := by decide +kernel
theorem dX0_requirePoint_15 : decode cX0_requirePoint 15 = .ok (.dup, 1) := by decide +kernel
theorem dX0_requirePoint_16 : decode cX0_requirePoint 16 = .ok (.ldc 127, 2) := by decide +kernel
theorem dX0_requirePoint_18 : decode cX0_requirePoint 18 = .ok (.invokespecial 129, 3) := by decide +kernel
theorem dX0_requirePoint_21 : decode cX0_requirePoint 21 = .ok (.athrow, 1) := by decide +kernel
theorem dX0_requirePoint_22 : decode cX0_requirePoint 22 = .ok (.return_, 1) := by decide +kernel
set_option maxRecDepth 20000 in
theorem ggX0_requireCar_X0_hasCar : GoodIn wsX0_requireCar wsX0_hasCar := goodIn_r _ [7, 8, 9, 10, 11, 12, 13, 14, 15, 16, 17, 18, 19, 20, 21, 22, 23, 24] (by decide +kernel) (by decide +kernel)
set_option maxRecDepth 20000 in
theorem gX0_requireCar_X0_hasCar : GoodIn wsX0_requireCar (wsV RX0 68 RX0 yX0_hasCar wsX0_hasCar) := goodIn_app (goodIn_of _ (by decide +kernel)) ggX0_requireCar_X0_hasCar
theorem dX0_requireCar_0 : decode cX0_requireCar 0 = .ok (.aload_n 0, 1) := by decide +kernel
theorem dX0_requireCar_1 : decode cX0_requireCar 1 = .ok (.iload_n 1, 1) := by decide +kernel
theorem dX0_requireCar_2 : decode cX0_requireCar 2 = .ok (.invokevirtual 68, 3) := by decide +kernel
theorem dX0_requireCar_5 : decode cX0_requireCar 5 = .ok (.ifCond .ne 13, 3) := by decide +kernel
theorem dX0_requireCar_8 : decode cX0_requireCar 8 = .ok (.new 58, 3) := by decide +kernel
theorem dX0_requireCar_11 : decode cX0_requireCar 11 = .ok (.dup, 1) := by decide +kernel
theorem dX0_requireCar_12 : decode cX0_requireCar 12 = .ok (.ldc 130, 2) := by decide +kernel
theorem dX0_requireCar_14 : decode cX0_requireCar 14 = .ok (.invokespecial 62, 3) := by decide +kernel
theorem dX0_requireCar_17 : decode cX0_requireCar 17 = .ok (.athrow, 1) := by decide +kernel
theorem dX0_requireCar_18 : decode cX0_requireCar 18 = .ok (.return_, 1) := by decide +kernel
theorem dX0_hasCar_0 : decode cX0_hasCar 0 = .ok (.aload_n 0, 1) := by decide +kernel
theorem dX0_hasCar_1 : decode cX0_hasCar 1 = .ok (.getfield 16, 3) := by decide +kernel
theorem dX0_hasCar_4 : decode cX0_hasCar 4 = .ok (.iload_n 1, 1) := by decide +kernel
theorem dX0_hasCar_5 : decode cX0_hasCar 5 = .ok (.iaload, 1) := by decide +kernel
theorem dX0_hasCar_6 : decode cX0_hasCar 6 = .ok (.iconst (-1), 1) := by decide +kernel
theorem dX0_hasCar_7 : decode cX0_hasCar 7 = .ok (.if_icmp .eq 7, 3) := by decide +kernel
theorem dX0_hasCar_10 : decode cX0_hasCar 10 = .ok (.iconst 1, 1) := by decide +kernel
theorem dX0_hasCar_11 : decode cX0_hasCar 11 = .ok (.goto 4, 3) := by decide +kernel
theorem dX0_hasCar_14 : decode cX0_hasCar 14 = .ok (.iconst 0, 1) := by decide +kernel
theorem dX0_hasCar_15 : decode cX0_hasCar 15 = .ok (.ireturn, 1) := by decide +kernel
theorem dX0_stepsLeftAt_0 : decode cX0_stepsLeftAt 0 = .ok (.aload_n 0, 1) := by decide +kernel
theorem dX0_stepsLeftAt_1 : decode cX0_stepsLeftAt 1 = .ok (.getfield 22, 3) := by decide +kernel
theorem dX0_stepsLeftAt_4 : decode cX0_stepsLeftAt 4 = .ok (.iload_n 1, 1) := by decide +kernel
theorem dX0_stepsLeftAt_5 : decode cX0_stepsLeftAt 5 = .ok (.iaload, 1) := by decide +kernel
theorem dX0_stepsLeftAt_6 : decode cX0_stepsLeftAt 6 = .ok (.aload_n 0, 1) := by decide +kernel
theorem dX0_stepsLeftAt_7 : decode cX0_stepsLeftAt 7 = .ok (.getfield 74, 3) := by decide +kernel
theorem dX0_stepsLeftAt_10 : decode cX0_stepsLeftAt 10 = .ok (.isub, 1) := by decide +kernel
theorem dX0_stepsLeftAt_11 : decode cX0_stepsLeftAt 11 = .ok (.iconst 0, 1) := by decide +kernel
theorem dX0_stepsLeftAt_12 : decode cX0_stepsLeftAt 12 = .ok (.invokestatic 87, 3) := by decide +kernel
theorem dX0_stepsLeftAt_15 : decode cX0_stepsLeftAt 15 = .ok (.ireturn, 1) := by decide +kernel
theorem dX0_lesserOfGreatestAndAppetite_0 : decode cX0_lesserOfGreatestAndAppetite 0 = .ok (.aload_n 0, 1) := by decide +kernel
theorem dX0_lesserOfGreatestAndAppetite_1 : decode cX0_lesserOfGreatestAndAppetite 1 = .ok (.getfield 13, 3) := by decide +kernel
theorem dX0_lesserOfGreatestAndAppetite_4 : decode cX0_lesserOfGreatestAndAppetite 4 = .ok (.iload_n 1, 1) := by decide +kernel
theorem dX0_lesserOfGreatestAndAppetite_5 : decode cX0_lesserOfGreatestAndAppetite 5 = .ok (.iaload, 1) := by decide +kernel
theorem dX0_lesserOfGreatestAndAppetite_6 : decode cX0_lesserOfGreatestAndAppetite 6 = .ok (.aload_n 0, 1) := by decide +kernel
theorem dX0_lesserOfGreatestAndAppetite_7 : decode cX0_lesserOfGreatestAndAppetite 7 = .ok (.getfield 19, 3) := by decide +kernel
theorem dX0_lesserOfGreatestAndAppetite_10 : decode cX0_lesserOfGreatestAndAppetite 10 = .ok (.iload_n 1, 1) := by decide +kernel
theorem dX0_lesserOfGreatestAndAppetite_11 : decode cX0_lesserOfGreatestAndAppetite 11 = .ok (.iaload, 1) := by decide +kernel
theorem dX0_lesserOfGreatestAndAppetite_12 : decode cX0_lesserOfGreatestAndAppetite 12 = .ok (.invokestatic 132, 3) := by decide +kernel
theorem dX0_lesserOfGreatestAndAppetite_15 : decode cX0_lesserOfGreatestAndAppetite 15 = .ok (.ireturn, 1) := by decide +kernel
theorem dX0_unitsPerAmpere_0 : decode cX0_unitsPerAmpere 0 = .ok (.aload_n 0, 1) := by decide +kernel
theorem dX0_unitsPerAmpere_1 : decode cX0_unitsPerAmpere 1 = .ok (.getfield 9, 3) := by decide +kernel
theorem dX0_unitsPerAmpere_4 : decode cX0_unitsPerAmpere 4 = .ok (.iload_n 1, 1) := by decide +kernel
theorem dX0_unitsPerAmpere_5 : decode cX0_unitsPerAmpere 5 = .ok (.iaload, 1) := by decide +kernel
theorem dX0_unitsPerAmpere_6 : decode cX0_unitsPerAmpere 6 = .ok (.iconst 3, 1) := by decide +kernel
theorem dX0_unitsPerAmpere_7 : decode cX0_unitsPerAmpere 7 = .ok (.if_icmp .ne 7, 3) := by decide +kernel
theorem dX0_unitsPerAmpere_10 : decode cX0_unitsPerAmpere 10 = .ok (.iconst 3, 1) := by decide +kernel
theorem dX0_unitsPerAmpere_11 : decode cX0_unitsPerAmpere 11 = .ok (.goto 4, 3) := by decide +kernel
theorem dX0_unitsPerAmpere_14 : decode cX0_unitsPerAmpere 14 = .ok (.iconst 1, 1) := by decide +kernel
theorem dX0_unitsPerAmpere_15 : decode cX0_unitsPerAmpere 15 = .ok (.ireturn, 1) := by decide +kernel
set_option maxRecDepth 20000 in
theorem ggX0_laxityAt_X0_lesserOfGreatestAndAppetite : GoodIn wsX0_laxityAt wsX0_lesserOfGreatestAndAppetite := goodIn_r _ [6, 7, 8, 9, 10, 11, 12, 30, 31, 32, 33, 34, 35, 36, 37, 38, 39, 40, 41, 42, 43, 44, 45] (by decide +kernel) (by decide +kernel)
set_option maxRecDepth 20000 in
theorem gX0_laxityAt_X0_lesserOfGreatestAndAppetite : GoodIn wsX0_laxityAt (wsV RX0 135 RX0 yX0_lesserOfGreatestAndAppetite wsX0_lesserOfGreatestAndAppetite) := goodIn_app (goodIn_of _ (by decide +kernel)) ggX0_laxityAt_X0_lesserOfGreatestAndAppetite
set_option maxRecDepth 20000 in
theorem ggX0_laxityAt_X0_unitsPerAmpere : GoodIn wsX0_laxityAt wsX0_unitsPerAmpere := goodIn_r _ [16, 17, 30, 31, 32, 33, 34, 35, 36, 37, 38, 39, 40, 41, 42, 43, 44, 45] (by decide +kernel) (by decide +kernel)
set_option maxRecDepth 20000 in
theorem gX0_laxityAt_X0_unitsPerAmpere : GoodIn wsX0_laxityAt (wsV RX0 138 RX0 yX0_unitsPerAmpere wsX0_unitsPerAmpere) := goodIn_app (goodIn_of _ (by decide +kernel)) ggX0_laxityAt_X0_unitsPerAmpere
set_option maxRecDepth 20000 in
theorem ggX0_laxityAt_X0_stepsLeftAt : GoodIn wsX0_laxityAt wsX0_stepsLeftAt := goodIn_r _ [21, 22, 23, 24, 25, 11, 26, 30, 31, 32, 33, 34, 35, 36, 37, 38, 39, 40, 41, 42, 43, 44, 45] (by decide +kernel) (by decide +kernel)
set_option maxRecDepth 20000 in
theorem gX0_laxityAt_X0_stepsLeftAt : GoodIn wsX0_laxityAt (wsV RX0 93 RX0 yX0_stepsLeftAt wsX0_stepsLeftAt) := goodIn_app (goodIn_of _ (by decide +kernel)) ggX0_laxityAt_X0_stepsLeftAt
set_option maxRecDepth 20000 in
theorem ggX0_laxityAt_X0_dividedRoundedUp : GoodIn wsX0_laxityAt wsX0_dividedRoundedUp := goodIn_r _ [29] (by decide +kernel) (by decide +kernel)
set_option maxRecDepth 20000 in
theorem gX0_laxityAt_X0_dividedRoundedUp : GoodIn wsX0_laxityAt (va_wsS RX0 141 yX0_dividedRoundedUp wsX0_dividedRoundedUp) := goodIn_app (goodIn_of _ (by decide +kernel)) ggX0_laxityAt_X0_dividedRoundedUp
theorem dX0_laxityAt_0 : decode cX0_laxityAt 0 = .ok (.aload_n 0, 1) := by decide +kernel
theorem dX0_laxityAt_1 : decode cX0_laxityAt 1 = .ok (.iload_n 1, 1) := by decide +kernel
theorem dX0_laxityAt_2 : decode cX0_laxityAt 2 = .ok (.invokevirtual 135, 3) := by decide +kernel
theorem dX0_laxityAt_5 : decode cX0_laxityAt 5 = .ok (.aload_n 0, 1) := by decide +kernel
theorem dX0_laxityAt_6 : decode cX0_laxityAt 6 = .ok (.iload_n 1, 1) := by decide +kernel
theorem dX0_laxityAt_7 : decode cX0_laxityAt 7 = .ok (.invokevirtual 138, 3) := by decide +kernel
theorem dX0_laxityAt_10 : decode cX0_laxityAt 10 = .ok (.imul, 1) := by decide +kernel
theorem dX0_laxityAt_11 : decode cX0_laxityAt 11 = .ok (.istore_n 2, 1) := by decide +kernel
theorem dX0_laxityAt_12 : decode cX0_laxityAt 12 = .ok (.aload_n 0, 1) := by decide +kernel
theorem dX0_laxityAt_13 : decode cX0_laxityAt 13 = .ok (.iload_n 1, 1) := by decide +kernel
theorem dX0_laxityAt_14 : decode cX0_laxityAt 14 = .ok (.invokevirtual 93, 3) := by decide +kernel
theorem dX0_laxityAt_17 : decode cX0_laxityAt 17 = .ok (.aload_n 0, 1) := by decide +kernel
theorem dX0_laxityAt_18 : decode cX0_laxityAt 18 = .ok (.getfield 16, 3) := by decide +kernel
theorem dX0_laxityAt_21 : decode cX0_laxityAt 21 = .ok (.iload_n 1, 1) := by decide +kernel
theorem dX0_laxityAt_22 : decode cX0_laxityAt 22 = .ok (.iaload, 1) := by decide +kernel
theorem dX0_laxityAt_23 : decode cX0_laxityAt 23 = .ok (.iload_n 2, 1) := by decide +kernel
theorem dX0_laxityAt_24 : decode cX0_laxityAt 24 = .ok (.invokestatic 141, 3) := by decide +kernel
theorem dX0_laxityAt_27 : decode cX0_laxityAt 27 = .ok (.isub, 1) := by decide +kernel
theorem dX0_laxityAt_28 : decode cX0_laxityAt 28 = .ok (.ireturn, 1) := by decide +kernel
theorem dX0_isToBeGiven_0 : decode cX0_isToBeGiven 0 = .ok (.aload_n 0, 1) := by decide +kernel
theorem dX0_isToBeGiven_1 : decode cX0_isToBeGiven 1 = .ok (.getfield 16, 3) := by decide +kernel
theorem dX0_isToBeGiven_4 : decode cX0_isToBeGiven 4 = .ok (.iload_n 1, 1) := by decide +kernel
theorem dX0_isToBeGiven_5 : decode cX0_isToBeGiven 5 = .ok (.iaload, 1) := by decide +kernel
theorem dX0_isToBeGiven_6 : decode cX0_isToBeGiven 6 = .ok (.ifCond .le 20, 3) := by decide +kernel
theorem dX0_isToBeGiven_9 : decode cX0_isToBeGiven 9 = .ok (.aload_n 0, 1) := by decide +kernel
theorem dX0_isToBeGiven_10 : decode cX0_isToBeGiven 10 = .ok (.getfield 22, 3) := by decide +kernel
theorem dX0_isToBeGiven_13 : decode cX0_isToBeGiven 13 = .ok (.iload_n 1, 1) := by decide +kernel
theorem dX0_isToBeGiven_14 : decode cX0_isToBeGiven 14 = .ok (.iaload, 1) := by decide +kernel
theorem dX0_isToBeGiven_15 : decode cX0_isToBeGiven 15 = .ok (.aload_n 0, 1) := by decide +kernel
theorem dX0_isToBeGiven_16 : decode cX0_isToBeGiven 16 = .ok (.getfield 74, 3) := by decide +kernel
theorem dX0_isToBeGiven_19 : decode cX0_isToBeGiven 19 = .ok (.if_icmp .le 7, 3) := by decide +kernel
theorem dX0_isToBeGiven_22 : decode cX0_isToBeGiven 22 = .ok (.iconst 1, 1) := by decide +kernel
theorem dX0_isToBeGiven_23 : decode cX0_isToBeGiven 23 = .ok (.goto 4, 3) := by decide +kernel
theorem dX0_isToBeGiven_26 : decode cX0_isToBeGiven 26 = .ok (.iconst 0, 1) := by decide +kernel
theorem dX0_isToBeGiven_27 : decode cX0_isToBeGiven 27 = .ok (.ireturn, 1) := by decide +kernel
set_option maxRecDepth 20000 in
theorem ggX0_reachAt_X0_isToBeGiven : GoodIn wsX0_reachAt wsX0_isToBeGiven := goodIn_r _ [10, 1, 11, 12, 27, 28, 29, 30, 31, 32, 33, 34, 35, 36, 37, 38, 39, 40, 41, 42] (by decide +kernel) (by decide +kernel)
set_option maxRecDepth 20000 in
theorem gX0_reachAt_X0_isToBeGiven : GoodIn wsX0_reachAt (wsV RX0 144 RX0 yX0_isToBeGiven wsX0_isToBeGiven) := goodIn_app (goodIn_of _ (by decide +kernel)) ggX0_reachAt_X0_isToBeGiven
set_option maxRecDepth 20000 in
theorem ggX0_reachAt_X0_unitsPerAmpere : GoodIn wsX0_reachAt wsX0_unitsPerAmpere := goodIn_r _ [16, 17, 27, 28, 29, 30, 31, 32, 33, 34, 35, 36, 37, 38, 39, 40, 41, 42] (by decide +kernel) (by decide +kernel)
set_option maxRecDepth 20000 in
theorem gX0_reachAt_X0_unitsPerAmpere : GoodIn wsX0_reachAt (wsV RX0 138 RX0 yX0_unitsPerAmpere wsX0_unitsPerAmpere) := goodIn_app (goodIn_of _ (by decide +kernel)) ggX0_reachAt_X0_unitsPerAmpere
set_option maxRecDepth 20000 in
theorem ggX0_reachAt_X0_dividedRoundedUp : GoodIn wsX0_reachAt wsX0_dividedRoundedUp := goodIn_r _ [20] (by decide +kernel) (by decide +kernel)
set_option maxRecDepth 20000 in
theorem gX0_reachAt_X0_dividedRoundedUp : GoodIn wsX0_reachAt (va_wsS RX0 141 yX0_dividedRoundedUp wsX0_dividedRoundedUp) := goodIn_app (goodIn_of _ (by decide +kernel)) ggX0_reachAt_X0_dividedRoundedUp
set_option maxRecDepth 20000 in
theorem ggX0_reachAt_X0_lesserOfGreatestAndAppetite : GoodIn wsX0_reachAt wsX0_lesserOfGreatestAndAppetite := goodIn_r _ [24, 25, 26, 2, 3, 4, 5, 27, 28, 29, 30, 31, 32, 33, 34, 35, 36, 37, 38, 39, 40, 41, 42] (by decide +kernel) (by decide +kernel)
set_option maxRecDepth 20000 in
theorem gX0_reachAt_X0_lesserOfGreatestAndAppetite : GoodIn wsX0_reachAt (wsV RX0 135 RX0 yX0_lesserOfGreatestAndAppetite wsX0_lesserOfGreatestAndAppetite) := goodIn_app (goodIn_of _ (by decide +kernel)) ggX0_reachAt_X0_lesserOfGreatestAndAppetite
theorem dX0_reachAt_0 : decode cX0_reachAt 0 = .ok (.aload_n 0, 1) := by decide +kernel
theorem dX0_reachAt_1 : decode cX0_reachAt 1 = .ok (.iload_n 1, 1) := by decide +kernel
theorem dX0_reachAt_2 : decode cX0_reachAt 2 = .ok (.invokevirtual 144, 3) := by decide +kernel
theorem dX0_reachAt_5 : decode cX0_reachAt 5 = .ok (.ifCond .ne 5, 3) := by decide +kernel
theorem dX0_reachAt_8 : decode cX0_reachAt 8 = .ok (.iconst 0, 1) := by decide +kernel
theorem dX0_reachAt_9 : decode cX0_reachAt 9 = .ok (.ireturn, 1) := by decide +kernel
theorem dX0_reachAt_10 : decode cX0_reachAt 10 = .ok (.aload_n 0, 1) := by decide +kernel
theorem dX0_reachAt_11 : decode cX0_reachAt 11 = .ok (.getfield 16, 3) := by decide +kernel
theorem dX0_reachAt_14 : decode cX0_reachAt 14 = .ok (.iload_n 1, 1) := by decide +kernel
theorem dX0_reachAt_15 : decode cX0_reachAt 15 = .ok (.iaload, 1) := by decide +kernel
theorem dX0_reachAt_16 : decode cX0_reachAt 16 = .ok (.aload_n 0, 1) := by decide +kernel
theorem dX0_reachAt_17 : decode cX0_reachAt 17 = .ok (.iload_n 1, 1) := by decide +kernel
theorem dX0_reachAt_18 : decode cX0_reachAt 18 = .ok (.invokevirtual 138, 3) := by decide +kernel
theorem dX0_reachAt_21 : decode cX0_reachAt 21 = .ok (.invokestatic 141, 3) := by decide +kernel
theorem dX0_reachAt_24 : decode cX0_reachAt 24 = .ok (.istore_n 2, 1) := by decide +kernel
theorem dX0_reachAt_25 : decode cX0_reachAt 25 = .ok (.aload_n 0, 1) := by decide +kernel
theorem dX0_reachAt_26 : decode cX0_reachAt 26 = .ok (.iload_n 1, 1) := by decide +kernel
theorem dX0_reachAt_27 : decode cX0_reachAt 27 = .ok (.invokevirtual 135, 3) := by decide +kernel
theorem dX0_reachAt_30 : decode cX0_reachAt 30 = .ok (.iload_n 2, 1) := by decide +kernel
theorem dX0_reachAt_31 : decode cX0_reachAt 31 = .ok (.invokestatic 132, 3) := by decide +kernel
theorem dX0_reachAt_34 : decode cX0_reachAt 34 = .ok (.ireturn, 1) := by decide +kernel
theorem dX0_dividedRoundedUp_0 : decode cX0_dividedRoundedUp 0 = .ok (.iload_n 1, 1) := by decide +kernel
theorem dX0_dividedRoundedUp_1 : decode cX0_dividedRoundedUp 1 = .ok (.iconst 1, 1) := by decide +kernel
theorem dX0_dividedRoundedUp_2 : decode cX0_dividedRoundedUp 2 = .ok (.if_icmp .ge 7, 3) := by decide +kernel
theorem dX0_dividedRoundedUp_5 : decode cX0_dividedRoundedUp 5 = .ok (.iload_n 0, 1) := by decide +kernel
theorem dX0_dividedRoundedUp_6 : decode cX0_dividedRoundedUp 6 = .ok (.goto 10, 3) := by decide +kernel
theorem dX0_dividedRoundedUp_9 : decode cX0_dividedRoundedUp 9 = .ok (.iload_n 0, 1) := by decide +kernel
theorem dX0_dividedRoundedUp_10 : decode cX0_dividedRoundedUp 10 = .ok (.iload_n 1, 1) := by decide +kernel
theorem dX0_dividedRoundedUp_11 : decode cX0_dividedRoundedUp 11 = .ok (.iadd, 1) := by decide +kernel
theorem dX0_dividedRoundedUp_12 : decode cX0_dividedRoundedUp 12 = .ok (.iconst 1, 1) := by decide +kernel
theorem dX0_dividedRoundedUp_13 : decode cX0_dividedRoundedUp 13 = .ok (.isub, 1) := by decide +kernel
theorem dX0_dividedRoundedUp_14 : decode cX0_dividedRoundedUp 14 = .ok (.iload_n 1, 1) := by decide +kernel
theorem dX0_dividedRoundedUp_15 : decode cX0_dividedRoundedUp 15 = .ok (.idiv, 1) := by decide +kernel
theorem dX0_dividedRoundedUp_16 : decode cX0_dividedRoundedUp 16 = .ok (.ireturn, 1) := by decide +kernel
set_option maxRecDepth 20000 in
theorem ggX0_shareCurrents_X0_startShares : GoodIn wsX0_shareCurrents wsX0_startShares := goodIn_r _ [6, 7, 8, 9, 10, 11, 12, 13, 5, 14, 15, 16, 17, 18, 19, 20, 21, 22, 23, 24, 25, 26, 27, 28, 29, 30, 31, 32, 33, 34, 35, 36, 37, 38, 39, 98, 99, 100, 101, 102, 103, 104, 105, 106, 107, 108, 109, 110, 111, 112, 113] (by decide +kernel) (by decide +kernel)
set_option maxRecDepth 20000 in
theorem gX0_shareCurrents_X0_startShares : GoodIn wsX0_shareCurrents (wsV RX0 147 RX0 yX0_startShares wsX0_startShares) := goodIn_app (goodIn_of _ (by decide +kernel)) ggX0_shareCurrents_X0_startShares
set_option maxRecDepth 20000 in
theorem ggX0_shareCurrents_X0_shareFairly : GoodIn wsX0_shareCurrents wsX0_shareFairly := goodIn_r _ [43, 44, 45, 46, 5, 47, 7, 8, 9, 48, 49, 50, 51, 52, 10, 16, 17, 18, 19, 53, 54, 55, 56, 30, 57, 58, 59, 60, 98, 99, 100, 101, 102, 103, 104, 105, 106, 107, 108, 109, 110, 111, 112, 113] (by decide +kernel) (by decide +kernel)
set_option maxRecDepth 20000 in
theorem gX0_shareCurrents_X0_shareFairly : GoodIn wsX0_shareCurrents (wsV RX0 150 RX0 yX0_shareFairly wsX0_shareFairly) := goodIn_app (goodIn_of _ (by decide +kernel)) ggX0_shareCurrents_X0_shareFairly
set_option maxRecDepth 20000 in
theorem ggX0_shareCurrents_X0_shareByLaxity : GoodIn wsX0_shareCurrents wsX0_shareByLaxity := goodIn_r _ [64, 7, 9, 65, 16, 17, 18, 19, 66, 67, 68, 5, 69, 70, 71, 72, 73, 15, 34, 35, 36, 37, 38, 39, 26, 27, 28, 29, 30, 74, 75, 76, 77, 24, 25, 78, 79, 80, 31, 32, 33, 48, 49, 50, 51, 52, 10, 53, 54, 55, 56, 57, 58, 59, 60, 8, 98, 99, 100, 101, 102, 103, 104, 105, 106, 107, 108, 109, 110, 111, 112, 113] (by decide +kernel) (by decide +kernel)
set_option maxRecDepth 20000 in
theorem gX0_shareCurrents_X0_shareByLaxity : GoodIn wsX0_shareCurrents (wsV RX0 153 RX0 yX0_shareByLaxity wsX0_shareByLaxity) := goodIn_app (goodIn_of _ (by decide +kernel)) ggX0_shareCurrents_X0_shareByLaxity
set_option maxRecDepth 20000 in
theorem ggX0_shareCurrents_X0_keepBalance : GoodIn wsX0_shareCurrents wsX0_keepBalance := goodIn_r _ [84, 85, 86, 87, 88, 5, 89, 10, 78, 79, 18, 80, 16, 17, 19, 90, 91, 92, 93, 94, 95, 96, 97, 7, 30, 8, 57, 58, 59, 60, 53, 54, 55, 56, 98, 99, 100, 101, 102, 103, 104, 105, 106, 107, 108, 109, 110, 111, 112, 113] (by decide +kernel) (by decide +kernel)
set_option maxRecDepth 20000 in
theorem gX0_shareCurrents_X0_keepBalance : GoodIn wsX0_shareCurrents (wsV RX0 156 RX0 yX0_keepBalance wsX0_keepBalance) := goodIn_app (goodIn_of _ (by decide +kernel)) ggX0_shareCurrents_X0_keepBalance
theorem dX0_shareCurrents_0 : decode cX0_shareCurrents 0 = .ok (.aload_n 0, 1) := by decide +kernel
theorem dX0_shareCurrents_1 : decode cX0_shareCurrents 1 = .ok (.invokevirtual 147, 3) := by decide +kernel
theorem dX0_shareCurrents_4 : decode cX0_shareCurrents 4 = .ok (.aload_n 0, 1) := by decide +kernel
theorem dX0_shareCurrents_5 : decode cX0_shareCurrents 5 = .ok (.getfield 44, 3) := by decide +kernel
theorem dX0_shareCurrents_8 : decode cX0_shareCurrents 8 = .ok (.iconst 1, 1) := by decide +kernel
theorem dX0_shareCurrents_9 : decode cX0_shareCurrents 9 = .ok (.if_icmp .ne 10, 3) := by decide +kernel
theorem dX0_shareCurrents_12 : decode cX0_shareCurrents 12 = .ok (.aload_n 0, 1) := by decide +kernel
theorem dX0_shareCurrents_13 : decode cX0_shareCurrents 13 = .ok (.invokevirtual 150, 3) := by decide +kernel
theorem dX0_shareCurrents_16 : decode cX0_shareCurrents 16 = .ok (.goto 7, 3) := by decide +kernel
theorem dX0_shareCurrents_19 : decode cX0_shareCurrents 19 = .ok (.aload_n 0, 1) := by decide +kernel
theorem dX0_shareCurrents_20 : decode cX0_shareCurrents 20 = .ok (.invokevirtual 153, 3) := by decide +kernel
theorem dX0_shareCurrents_23 : decode cX0_shareCurrents 23 = .ok (.aload_n 0, 1) := by decide +kernel
theorem dX0_shareCurrents_24 : decode cX0_shareCurrents 24 = .ok (.invokevirtual 156, 3) := by decide +kernel
theorem dX0_shareCurrents_27 : decode cX0_shareCurrents 27 = .ok (.return_, 1) := by decide +kernel
set_option maxRecDepth 20000 in
theorem ggX0_takeWhatIsGiven_X0_unitsPerAmpere : GoodIn wsX0_takeWhatIsGiven wsX0_unitsPerAmpere := goodIn_r _ [13, 14, 15, 16, 17, 18, 19, 20, 21, 22, 23, 24, 25, 26, 27, 28, 29, 30] (by decide +kernel) (by decide +kernel)
set_option maxRecDepth 20000 in
theorem gX0_takeWhatIsGiven_X0_unitsPerAmpere : GoodIn wsX0_takeWhatIsGiven (wsV RX0 138 RX0 yX0_unitsPerAmpere wsX0_unitsPerAmpere) := goodIn_app (goodIn_of _ (by decide +kernel)) ggX0_takeWhatIsGiven_X0_unitsPerAmpere
theorem dX0_takeWhatIsGiven_0 : decode cX0_takeWhatIsGiven 0 = .ok (.iconst 0, 1) := by decide +kernel
theorem dX0_takeWhatIsGiven_1 : decode cX0_takeWhatIsGiven 1 = .ok (.istore_n 1, 1) := by decide +kernel
theorem dX0_takeWhatIsGiven_2 : decode cX0_takeWhatIsGiven 2 = .ok (.iload_n 1, 1) := by decide +kernel
theorem dX0_takeWhatIsGiven_3 : decode cX0_takeWhatIsGiven 3 = .ok (.aload_n 0, 1) := by decide +kernel
theorem dX0_takeWhatIsGiven_4 : decode cX0_takeWhatIsGiven 4 = .ok (.getfield 55, 3) := by decide +kernel
theorem dX0_takeWhatIsGiven_7 : decode cX0_takeWhatIsGiven 7 = .ok (.if_icmp .ge 60, 3) := by decide +kernel
theorem dX0_takeWhatIsGiven_10 : decode cX0_takeWhatIsGiven 10 = .ok (.aload_n 0, 1) := by decide +kernel
theorem dX0_takeWhatIsGiven_11 : decode cX0_takeWhatIsGiven 11 = .ok (.getfield 28, 3) := by decide +kernel
theorem dX0_takeWhatIsGiven_14 : decode cX0_takeWhatIsGiven 14 = .ok (.iload_n 1, 1) := by decide +kernel
theorem dX0_takeWhatIsGiven_15 : decode cX0_takeWhatIsGiven 15 = .ok (.iaload, 1) := by decide +kernel
theorem dX0_takeWhatIsGiven_16 : decode cX0_takeWhatIsGiven 16 = .ok (.ifCond .le 45, 3) := by decide +kernel
theorem dX0_takeWhatIsGiven_19 : decode cX0_takeWhatIsGiven 19 = .ok (.aload_n 0, 1) := by decide +kernel
theorem dX0_takeWhatIsGiven_20 : decode cX0_takeWhatIsGiven 20 = .ok (.getfield 28, 3) := by decide +kernel
theorem dX0_takeWhatIsGiven_23 : decode cX0_takeWhatIsGiven 23 = .ok (.iload_n 1, 1) := by decide +kernel
theorem dX0_takeWhatIsGiven_24 : decode cX0_takeWhatIsGiven 24 = .ok (.iaload, 1) := by decide +kernel
theorem dX0_takeWhatIsGiven_25 : decode cX0_takeWhatIsGiven 25 = .ok (.aload_n 0, 1) := by decide +kernel
theorem dX0_takeWhatIsGiven_26 : decode cX0_takeWhatIsGiven 26 = .ok (.iload_n 1, 1) := by decide +kernel
theorem dX0_takeWhatIsGiven_27 : decode cX0_takeWhatIsGiven 27 = .ok (.invokevirtual 138, 3) := by decide +kernel
theorem dX0_takeWhatIsGiven_30 : decode cX0_takeWhatIsGiven 30 = .ok (.imul, 1) := by decide +kernel
theorem dX0_takeWhatIsGiven_31 : decode cX0_takeWhatIsGiven 31 = .ok (.aload_n 0, 1) := by decide +kernel
theorem dX0_takeWhatIsGiven_32 : decode cX0_takeWhatIsGiven 32 = .ok (.getfield 16, 3) := by decide +kernel
theorem dX0_takeWhatIsGiven_35 : decode cX0_takeWhatIsGiven 35 = .ok (.iload_n 1, 1) := by decide +kernel
theorem dX0_takeWhatIsGiven_36 : decode cX0_takeWhatIsGiven 36 = .ok (.iaload, 1) := by decide +kernel
theorem dX0_takeWhatIsGiven_37 : decode cX0_takeWhatIsGiven 37 = .ok (.invokestatic 132, 3) := by decide +kernel
theorem dX0_takeWhatIsGiven_40 : decode cX0_takeWhatIsGiven 40 = .ok (.istore_n 2, 1) := by decide +kernel
theorem dX0_takeWhatIsGiven_41 : decode cX0_takeWhatIsGiven 41 = .ok (.aload_n 0, 1) := by decide +kernel
theorem dX0_takeWhatIsGiven_42 : decode cX0_takeWhatIsGiven 42 = .ok (.getfield 16, 3) := by decide +kernel
theorem dX0_takeWhatIsGiven_45 : decode cX0_takeWhatIsGiven 45 = .ok (.iload_n 1, 1) := by decide +kernel
theorem dX0_takeWhatIsGiven_46 : decode cX0_takeWhatIsGiven 46 = .ok (.dup2, 1) := by decide +kernel
theorem dX0_takeWhatIsGiven_47 : decode cX0_takeWhatIsGiven 47 = .ok (.iaload, 1) := by decide +kernel
theorem dX0_takeWhatIsGiven_48 : decode cX0_takeWhatIsGiven 48 = .ok (.iload_n 2, 1) := by decide +kernel
theorem dX0_takeWhatIsGiven_49 : decode cX0_takeWhatIsGiven 49 = .ok (.isub, 1) := by decide +kernel
theorem dX0_takeWhatIsGiven_50 : decode cX0_takeWhatIsGiven 50 = .ok (.iastore, 1) := by decide +kernel
theorem dX0_takeWhatIsGiven_51 : decode cX0_takeWhatIsGiven 51 = .ok (.aload_n 0, 1) := by decide +kernel
theorem dX0_takeWhatIsGiven_52 : decode cX0_takeWhatIsGiven 52 = .ok (.dup, 1) := by decide +kernel
theorem dX0_takeWhatIsGiven_53 : decode cX0_takeWhatIsGiven 53 = .ok (.getfield 96, 3) := by decide +kernel
theorem dX0_takeWhatIsGiven_56 : decode cX0_takeWhatIsGiven 56 = .ok (.iload_n 2, 1) := by decide +kernel
theorem dX0_takeWhatIsGiven_57 : decode cX0_takeWhatIsGiven 57 = .ok (.iadd, 1) := by decide +kernel
theorem dX0_takeWhatIsGiven_58 : decode cX0_takeWhatIsGiven 58 = .ok (.putfield 96, 3) := by decide +kernel
theorem dX0_takeWhatIsGiven_61 : decode cX0_takeWhatIsGiven 61 = .ok (.iinc 1 1, 3) := by decide +kernel
theorem dX0_takeWhatIsGiven_64 : decode cX0_takeWhatIsGiven 64 = .ok (.goto (-62), 3) := by decide +kernel
theorem dX0_takeWhatIsGiven_67 : decode cX0_takeWhatIsGiven 67 = .ok (.return_, 1) := by decide +kernel
set_option maxRecDepth 20000 in
theorem ggX0_startShares_X0_reachAt : GoodIn wsX0_startShares wsX0_reachAt := goodIn_r _ [9, 10, 11, 12, 13, 14, 15, 16, 17, 8, 18, 19, 20, 21, 22, 23, 24, 25, 26, 27, 28, 29, 30, 31, 32, 33, 34, 35, 36, 37, 38, 39, 40, 41, 42, 43, 44, 45, 46, 47, 48, 49, 50] (by decide +kernel) (by decide +kernel)
set_option maxRecDepth 20000 in
theorem gX0_startShares_X0_reachAt : GoodIn wsX0_startShares (wsV RX0 105 RX0 yX0_reachAt wsX0_reachAt) := goodIn_app (goodIn_of _ (by decide +kernel)) ggX0_startShares_X0_reachAt
theorem dX0_startShares_0 : decode cX0_startShares 0 = .ok (.iconst 0, 1) := by decide +kernel
theorem dX0_startShares_1 : decode cX0_startShares 1 = .ok (.istore_n 1, 1) := by decide +kernel
theorem dX0_startShares_2 : decode cX0_startShares 2 = .ok (.iload_n 1, 1) := by decide +kernel
theorem dX0_startShares_3 : decode cX0_startShares 3 = .ok (.aload_n 0, 1) := by decide +kernel
theorem dX0_startShares_4 : decode cX0_startShares 4 = .ok (.getfield 55, 3) := by decide +kernel
theorem dX0_startShares_7 : decode cX0_startShares 7 = .ok (.if_icmp .ge 27, 3) := by decide +kernel
theorem dX0_startShares_10 : decode cX0_startShares 10 = .ok (.aload_n 0, 1) := by decide +kernel
theorem dX0_startShares_11 : decode cX0_startShares 11 = .ok (.getfield 28, 3) := by decide +kernel
theorem dX0_startShares_14 : decode cX0_startShares 14 = .ok (.iload_n 1, 1) := by decide +kernel
theorem dX0_startShares_15 : decode cX0_startShares 15 = .ok (.iconst 0, 1) := by decide +kernel
theorem dX0_startShares_16 : decode cX0_startShares 16 = .ok (.iastore, 1) := by decide +kernel
theorem dX0_startShares_17 : decode cX0_startShares 17 = .ok (.aload_n 0, 1) := by decide +kernel
theorem dX0_startShares_18 : decode cX0_startShares 18 = .ok (.getfield 25, 3) := by decide +kernel
theorem dX0_startShares_21 : decode cX0_startShares 21 = .ok (.iload_n 1, 1) := by decide +kernel
theorem dX0_startShares_22 : decode cX0_startShares 22 = .ok (.aload_n 0, 1) := by decide +kernel
theorem dX0_startShares_23 : decode cX0_startShares 23 = .ok (.iload_n 1, 1) := by decide +kernel
theorem dX0_startShares_24 : decode cX0_startShares 24 = .ok (.invokevirtual 105, 3) := by decide +kernel
theorem dX0_startShares_27 : decode cX0_startShares 27 = .ok (.iastore, 1) := by decide +kernel
theorem dX0_startShares_28 : decode cX0_startShares 28 = .ok (.iinc 1 1, 3) := by decide +kernel
theorem dX0_startShares_31 : decode cX0_startShares 31 = .ok (.goto (-29), 3) := by decide +kernel
theorem dX0_startShares_34 : decode cX0_startShares 34 = .ok (.iconst 0, 1) := by decide +kernel
theorem dX0_startShares_35 : decode cX0_startShares 35 = .ok (.istore_n 1, 1) := by decide +kernel
theorem dX0_startShares_36 : decode cX0_startShares 36 = .ok (.iload_n 1, 1) := by decide +kernel
theorem dX0_startShares_37 : decode cX0_startShares 37 = .ok (.iconst 3, 1) := by decide +kernel
theorem dX0_startShares_38 : decode cX0_startShares 38 = .ok (.if_icmp .ge 16, 3) := by decide +kernel
theorem dX0_startShares_41 : decode cX0_startShares 41 = .ok (.aload_n 0, 1) := by decide +kernel
theorem dX0_startShares_42 : decode cX0_startShares 42 = .ok (.getfield 34, 3) := by decide +kernel
theorem dX0_startShares_45 : decode cX0_startShares 45 = .ok (.iload_n 1, 1) := by decide +kernel
theorem dX0_startShares_46 : decode cX0_startShares 46 = .ok (.iconst 0, 1) := by decide +kernel
theorem dX0_startShares_47 : decode cX0_startShares 47 = .ok (.iastore, 1) := by decide +kernel
theorem dX0_startShares_48 : decode cX0_startShares 48 = .ok (.iinc 1 1, 3) := by decide +kernel
theorem dX0_startShares_51 : decode cX0_startShares 51 = .ok (.goto (-15), 3) := by decide +kernel
theorem dX0_startShares_54 : decode cX0_startShares 54 = .ok (.return_, 1) := by decide +kernel
theorem dX0_isAt_0 : decode cX0_isAt 0 = .ok (.aload_n 0, 1) := by decide +kernel
theorem dX0_isAt_1 : decode cX0_isAt 1 = .ok (.getfield 9, 3) := by decide +kernel
theorem dX0_isAt_4 : decode cX0_isAt 4 = .ok (.iload_n 1, 1) := by decide +kernel
theorem dX0_isAt_5 : decode cX0_isAt 5 = .ok (.iaload, 1) := by decide +kernel
theorem dX0_isAt_6 : decode cX0_isAt 6 = .ok (.iload_n 2, 1) := by decide +kernel
theorem dX0_isAt_7 : decode cX0_isAt 7 = .ok (.if_icmp .eq 13, 3) := by decide +kernel
theorem dX0_isAt_10 : decode cX0_isAt 10 = .ok (.aload_n 0, 1) := by decide +kernel
theorem dX0_isAt_11 : decode cX0_isAt 11 = .ok (.getfield 9, 3) := by decide +kernel
theorem dX0_isAt_14 : decode cX0_isAt 14 = .ok (.iload_n 1, 1) := by decide +kernel
theorem dX0_isAt_15 : decode cX0_isAt 15 = .ok (.iaload, 1) := by decide +kernel
theorem dX0_isAt_16 : decode cX0_isAt 16 = .ok (.iconst 3, 1) := by decide +kernel
theorem dX0_isAt_17 : decode cX0_isAt 17 = .ok (.if_icmp .ne 7, 3) := by decide +kernel
theorem dX0_isAt_20 : decode cX0_isAt 20 = .ok (.iconst 1, 1) := by decide +kernel
theorem dX0_isAt_21 : decode cX0_isAt 21 = .ok (.goto 4, 3) := by decide +kernel
theorem dX0_isAt_24 : decode cX0_isAt 24 = .ok (.iconst 0, 1) := by decide +kernel
theorem dX0_isAt_25 : decode cX0_isAt 25 = .ok (.ireturn, 1) := by decide +kernel
set_option maxRecDepth 20000 in
theorem ggX0_give_X0_isAt : GoodIn wsX0_give wsX0_isAt := goodIn_r _ [7, 8, 9, 10, 11, 12, 13, 14, 15, 16, 17, 18, 19, 20, 21, 22, 23, 24] (by decide +kernel) (by decide +kernel)
set_option maxRecDepth 20000 in
theorem gX0_give_X0_isAt : GoodIn wsX0_give (wsV RX0 159 RX0 yX0_isAt wsX0_isAt) := goodIn_app (goodIn_of _ (by decide +kernel)) ggX0_give_X0_isAt
theorem dX0_give_0 : decode cX0_give 0 = .ok (.aload_n 0, 1) := by decide +kernel
theorem dX0_give_1 : decode cX0_give 1 = .ok (.getfield 28, 3) := by decide +kernel
theorem dX0_give_4 : decode cX0_give 4 = .ok (.iload_n 1, 1) := by decide +kernel
theorem dX0_give_5 : decode cX0_give 5 = .ok (.dup2, 1) := by decide +kernel
theorem dX0_give_6 : decode cX0_give 6 = .ok (.iaload, 1) := by decide +kernel
theorem dX0_give_7 : decode cX0_give 7 = .ok (.iload_n 2, 1) := by decide +kernel
theorem dX0_give_8 : decode cX0_give 8 = .ok (.iadd, 1) := by decide +kernel
theorem dX0_give_9 : decode cX0_give 9 = .ok (.iastore, 1) := by decide +kernel
theorem dX0_give_10 : decode cX0_give 10 = .ok (.iconst 0, 1) := by decide +kernel
theorem dX0_give_11 : decode cX0_give 11 = .ok (.istore_n 3, 1) := by decide +kernel
theorem dX0_give_12 : decode cX0_give 12 = .ok (.iload_n 3, 1) := by decide +kernel
theorem dX0_give_13 : decode cX0_give 13 = .ok (.iconst 3, 1) := by decide +kernel
theorem dX0_give_14 : decode cX0_give 14 = .ok (.if_icmp .ge 28, 3) := by decide +kernel
theorem dX0_give_17 : decode cX0_give 17 = .ok (.aload_n 0, 1) := by decide +kernel
theorem dX0_give_18 : decode cX0_give 18 = .ok (.iload_n 1, 1) := by decide +kernel
theorem dX0_give_19 : decode cX0_give 19 = .ok (.iload_n 3, 1) := by decide +kernel
theorem dX0_give_20 : decode cX0_give 20 = .ok (.invokevirtual 159, 3) := by decide +kernel
theorem dX0_give_23 : decode cX0_give 23 = .ok (.ifCond .eq 13, 3) := by decide +kernel
theorem dX0_give_26 : decode cX0_give 26 = .ok (.aload_n 0, 1) := by decide +kernel
theorem dX0_give_27 : decode cX0_give 27 = .ok (.getfield 34, 3) := by decide +kernel
theorem dX0_give_30 : decode cX0_give 30 = .ok (.iload_n 3, 1) := by decide +kernel
theorem dX0_give_31 : decode cX0_give 31 = .ok (.dup2, 1) := by decide +kernel
theorem dX0_give_32 : decode cX0_give 32 = .ok (.iaload, 1) := by decide +kernel
theorem dX0_give_33 : decode cX0_give 33 = .ok (.iload_n 2, 1) := by decide +kernel
theorem dX0_give_34 : decode cX0_give 34 = .ok (.iadd, 1) := by decide +kernel
theorem dX0_give_35 : decode cX0_give 35 = .ok (.iastore, 1) := by decide +kernel
theorem dX0_give_36 : decode cX0_give 36 = .ok (.iinc 3 1, 3) := by decide +kernel
theorem dX0_give_39 : decode cX0_give 39 = .ok (.goto (-27), 3) := by decide +kernel
theorem dX0_give_42 : decode cX0_give 42 = .ok (.return_, 1) := by decide +kernel
set_option maxRecDepth 20000 in
theorem ggX0_roomFor_X0_isAt : GoodIn wsX0_roomFor wsX0_isAt := goodIn_r _ [11, 12, 13, 14, 15, 16, 17, 18, 19, 20, 21, 22, 23, 24, 25, 26, 27, 28] (by decide +kernel) (by decide +kernel)
set_option maxRecDepth 20000 in
theorem gX0_roomFor_X0_isAt : GoodIn wsX0_roomFor (wsV RX0 159 RX0 yX0_isAt wsX0_isAt) := goodIn_app (goodIn_of _ (by decide +kernel)) ggX0_roomFor_X0_isAt
theorem dX0_roomFor_0 : decode cX0_roomFor 0 = .ok (.bipush 100, 2) := by decide +kernel
theorem dX0_roomFor_2 : decode cX0_roomFor 2 = .ok (.istore_n 2, 1) := by decide +kernel
theorem dX0_roomFor_3 : decode cX0_roomFor 3 = .ok (.iconst 0, 1) := by decide +kernel
theorem dX0_roomFor_4 : decode cX0_roomFor 4 = .ok (.istore_n 3, 1) := by decide +kernel
theorem dX0_roomFor_5 : decode cX0_roomFor 5 = .ok (.iload_n 3, 1) := by decide +kernel
theorem dX0_roomFor_6 : decode cX0_roomFor 6 = .ok (.iconst 3, 1) := by decide +kernel
theorem dX0_roomFor_7 : decode cX0_roomFor 7 = .ok (.if_icmp .ge 36, 3) := by decide +kernel
theorem dX0_roomFor_10 : decode cX0_roomFor 10 = .ok (.aload_n 0, 1) := by decide +kernel
theorem dX0_roomFor_11 : decode cX0_roomFor 11 = .ok (.iload_n 1, 1) := by decide +kernel
theorem dX0_roomFor_12 : decode cX0_roomFor 12 = .ok (.iload_n 3, 1) := by decide +kernel
theorem dX0_roomFor_13 : decode cX0_roomFor 13 = .ok (.invokevirtual 159, 3) := by decide +kernel
theorem dX0_roomFor_16 : decode cX0_roomFor 16 = .ok (.ifCond .eq 21, 3) := by decide +kernel
theorem dX0_roomFor_19 : decode cX0_roomFor 19 = .ok (.iload_n 2, 1) := by decide +kernel
theorem dX0_roomFor_20 : decode cX0_roomFor 20 = .ok (.aload_n 0, 1) := by decide +kernel
theorem dX0_roomFor_21 : decode cX0_roomFor 21 = .ok (.getfield 37, 3) := by decide +kernel
theorem dX0_roomFor_24 : decode cX0_roomFor 24 = .ok (.iload_n 3, 1) := by decide +kernel
theorem dX0_roomFor_25 : decode cX0_roomFor 25 = .ok (.iaload, 1) := by decide +kernel
theorem dX0_roomFor_26 : decode cX0_roomFor 26 = .ok (.aload_n 0, 1) := by decide +kernel
theorem dX0_roomFor_27 : decode cX0_roomFor 27 = .ok (.getfield 34, 3) := by decide +kernel
theorem dX0_roomFor_30 : decode cX0_roomFor 30 = .ok (.iload_n 3, 1) := by decide +kernel
theorem dX0_roomFor_31 : decode cX0_roomFor 31 = .ok (.iaload, 1) := by decide +kernel
theorem dX0_roomFor_32 : decode cX0_roomFor 32 = .ok (.isub, 1) := by decide +kernel
theorem dX0_roomFor_33 : decode cX0_roomFor 33 = .ok (.invokestatic 132, 3) := by decide +kernel
theorem dX0_roomFor_36 : decode cX0_roomFor 36 = .ok (.istore_n 2, 1) := by decide +kernel
theorem dX0_roomFor_37 : decode cX0_roomFor 37 = .ok (.iinc 3 1, 3) := by decide +kernel
theorem dX0_roomFor_40 : decode cX0_roomFor 40 = .ok (.goto (-35), 3) := by decide +kernel
theorem dX0_roomFor_43 : decode cX0_roomFor 43 = .ok (.iload_n 2, 1) := by decide +kernel
theorem dX0_roomFor_44 : decode cX0_roomFor 44 = .ok (.ireturn, 1) := by decide +kernel
set_option maxRecDepth 20000 in
theorem ggX0_shareByLaxity_X0_putIntoTurns : GoodIn wsX0_shareByLaxity wsX0_putIntoTurns := goodIn_r _ [12, 3, 13, 14, 15, 11, 16, 17, 18, 19, 20, 21, 22, 23, 4, 5, 6, 7, 24, 25, 26, 27, 28, 29, 30, 31, 32, 33, 34, 35, 36, 37, 38, 39, 40, 56, 57, 58, 59, 60, 61, 62, 63, 64, 65, 66, 67, 68, 69, 70, 71] (by decide +kernel) (by decide +kernel)
set_option maxRecDepth 20000 in
theorem gX0_shareByLaxity_X0_putIntoTurns : GoodIn wsX0_shareByLaxity (wsV RX0 163 RX0 yX0_putIntoTurns wsX0_putIntoTurns) := goodIn_app (goodIn_of _ (by decide +kernel)) ggX0_shareByLaxity_X0_putIntoTurns
set_option maxRecDepth 20000 in
theorem ggX0_shareByLaxity_X0_roomFor : GoodIn wsX0_shareByLaxity wsX0_roomFor := goodIn_r _ [44, 45, 46, 4, 5, 6, 7, 47, 48, 49, 11, 50, 28, 56, 57, 58, 59, 60, 61, 62, 63, 64, 65, 66, 67, 68, 69, 70, 71] (by decide +kernel) (by decide +kernel)
set_option maxRecDepth 20000 in
theorem gX0_shareByLaxity_X0_roomFor : GoodIn wsX0_shareByLaxity (wsV RX0 167 RX0 yX0_roomFor wsX0_roomFor) := goodIn_app (goodIn_of _ (by decide +kernel)) ggX0_shareByLaxity_X0_roomFor
set_option maxRecDepth 20000 in
theorem ggX0_shareByLaxity_X0_give : GoodIn wsX0_shareByLaxity wsX0_give := goodIn_r _ [54, 55, 46, 47, 48, 49, 11, 50, 28, 56, 57, 58, 59, 60, 61, 62, 63, 64, 65, 66, 67, 68, 69, 70, 71] (by decide +kernel) (by decide +kernel)
set_option maxRecDepth 20000 in
theorem gX0_shareByLaxity_X0_give : GoodIn wsX0_shareByLaxity (wsV RX0 170 RX0 yX0_give wsX0_give) := goodIn_app (goodIn_of _ (by decide +kernel)) ggX0_shareByLaxity_X0_give
theorem dX0_shareByLaxity_0 : decode cX0_shareByLaxity 0 = .ok (.iconst 0, 1) := by decide +kernel
theorem dX0_shareByLaxity_1 : decode cX0_shareByLaxity 1 = .ok (.istore_n 1, 1) := by decide +kernel
theorem dX0_shareByLaxity_2 : decode cX0_shareByLaxity 2 = .ok (.iconst 0, 1) := by decide +kernel
theorem dX0_shareByLaxity_3 : decode cX0_shareByLaxity 3 = .ok (.istore_n 2, 1) := by decide +kernel
theorem dX0_shareByLaxity_4 : decode cX0_shareByLaxity 4 = .ok (.iload_n 2, 1) := by decide +kernel
theorem dX0_shareByLaxity_5 : decode cX0_shareByLaxity 5 = .ok (.aload_n 0, 1) := by decide +kernel
theorem dX0_shareByLaxity_6 : decode cX0_shareByLaxity 6 = .ok (.getfield 55, 3) := by decide +kernel
theorem dX0_shareByLaxity_9 : decode cX0_shareByLaxity 9 = .ok (.if_icmp .ge 27, 3) := by decide +kernel
theorem dX0_shareByLaxity_12 : decode cX0_shareByLaxity 12 = .ok (.aload_n 0, 1) := by decide +kernel
theorem dX0_shareByLaxity_13 : decode cX0_shareByLaxity 13 = .ok (.getfield 25, 3) := by decide +kernel
theorem dX0_shareByLaxity_16 : decode cX0_shareByLaxity 16 = .ok (.iload_n 2, 1) := by decide +kernel
theorem dX0_shareByLaxity_17 : decode cX0_shareByLaxity 17 = .ok (.iaload, 1) := by decide +kernel
theorem dX0_shareByLaxity_18 : decode cX0_shareByLaxity 18 = .ok (.ifCond .le 12, 3) := by decide +kernel
theorem dX0_shareByLaxity_21 : decode cX0_shareByLaxity 21 = .ok (.aload_n 0, 1) := by decide +kernel
theorem dX0_shareByLaxity_22 : decode cX0_shareByLaxity 22 = .ok (.iload_n 2, 1) := by decide +kernel
theorem dX0_shareByLaxity_23 : decode cX0_shareByLaxity 23 = .ok (.iload_n 1, 1) := by decide +kernel
theorem dX0_shareByLaxity_24 : decode cX0_shareByLaxity 24 = .ok (.invokevirtual 163, 3) := by decide +kernel
theorem dX0_shareByLaxity_27 : decode cX0_shareByLaxity 27 = .ok (.iinc 1 1, 3) := by decide +kernel
theorem dX0_shareByLaxity_30 : decode cX0_shareByLaxity 30 = .ok (.iinc 2 1, 3) := by decide +kernel
theorem dX0_shareByLaxity_33 : decode cX0_shareByLaxity 33 = .ok (.goto (-29), 3) := by decide +kernel
theorem dX0_shareByLaxity_36 : decode cX0_shareByLaxity 36 = .ok (.iconst 0, 1) := by decide +kernel
theorem dX0_shareByLaxity_37 : decode cX0_shareByLaxity 37 = .ok (.istore_n 2, 1) := by decide +kernel
theorem dX0_shareByLaxity_38 : decode cX0_shareByLaxity 38 = .ok (.iload_n 2, 1) := by decide +kernel
theorem dX0_shareByLaxity_39 : decode cX0_shareByLaxity 39 = .ok (.iload_n 1, 1) := by decide +kernel
theorem dX0_shareByLaxity_40 : decode cX0_shareByLaxity 40 = .ok (.if_icmp .ge 35, 3) := by decide +kernel
theorem dX0_shareByLaxity_43 : decode cX0_shareByLaxity 43 = .ok (.aload_n 0, 1) := by decide +kernel
theorem dX0_shareByLaxity_44 : decode cX0_shareByLaxity 44 = .ok (.getfield 31, 3) := by decide +kernel
theorem dX0_shareByLaxity_47 : decode cX0_shareByLaxity 47 = .ok (.iload_n 2, 1) := by decide +kernel
theorem dX0_shareByLaxity_48 : decode cX0_shareByLaxity 48 = .ok (.iaload, 1) := by decide +kernel
theorem dX0_shareByLaxity_49 : decode cX0_shareByLaxity 49 = .ok (.istore_n 3, 1) := by decide +kernel
theorem dX0_shareByLaxity_50 : decode cX0_shareByLaxity 50 = .ok (.aload_n 0, 1) := by decide +kernel
theorem dX0_shareByLaxity_51 : decode cX0_shareByLaxity 51 = .ok (.iload_n 3, 1) := by decide +kernel
theorem dX0_shareByLaxity_52 : decode cX0_shareByLaxity 52 = .ok (.aload_n 0, 1) := by decide +kernel
theorem dX0_shareByLaxity_53 : decode cX0_shareByLaxity 53 = .ok (.getfield 25, 3) := by decide +kernel
theorem dX0_shareByLaxity_56 : decode cX0_shareByLaxity 56 = .ok (.iload_n 3, 1) := by decide +kernel
theorem dX0_shareByLaxity_57 : decode cX0_shareByLaxity 57 = .ok (.iaload, 1) := by decide +kernel
theorem dX0_shareByLaxity_58 : decode cX0_shareByLaxity 58 = .ok (.aload_n 0, 1) := by decide +kernel
theorem dX0_shareByLaxity_59 : decode cX0_shareByLaxity 59 = .ok (.iload_n 3, 1) := by decide +kernel
theorem dX0_shareByLaxity_60 : decode cX0_shareByLaxity 60 = .ok (.invokevirtual 167, 3) := by decide +kernel
theorem dX0_shareByLaxity_63 : decode cX0_shareByLaxity 63 = .ok (.invokestatic 132, 3) := by decide +kernel
theorem dX0_shareByLaxity_66 : decode cX0_shareByLaxity 66 = .ok (.invokevirtual 170, 3) := by decide +kernel
theorem dX0_shareByLaxity_69 : decode cX0_shareByLaxity 69 = .ok (.iinc 2 1, 3) := by decide +kernel
theorem dX0_shareByLaxity_72 : decode cX0_shareByLaxity 72 = .ok (.goto (-34), 3) := by decide +kernel
theorem dX0_shareByLaxity_75 : decode cX0_shareByLaxity 75 = .ok (.return_, 1) := by decide +kernel
set_option maxRecDepth 20000 in
theorem ggX0_putIntoTurns_X0_laxityAt : GoodIn wsX0_putIntoTurns wsX0_laxityAt := goodIn_r _ [6, 7, 8, 9, 10, 5, 11, 12, 13, 14, 15, 16, 17, 18, 19, 20, 21, 22, 23, 24, 25, 26, 27, 28, 29, 30, 31, 32, 33, 34, 35, 36, 37, 38, 39, 40, 41, 42, 43, 44, 45, 46, 47, 48, 49, 50] (by decide +kernel) (by decide +kernel)
set_option maxRecDepth 20000 in
theorem gX0_putIntoTurns_X0_laxityAt : GoodIn wsX0_putIntoTurns (wsV RX0 77 RX0 yX0_laxityAt wsX0_laxityAt) := goodIn_app (goodIn_of _ (by decide +kernel)) ggX0_putIntoTurns_X0_laxityAt
theorem dX0_putIntoTurns_0 : decode cX0_putIntoTurns 0 = .ok (.aload_n 0, 1) := by decide +kernel
theorem dX0_putIntoTurns_1 : decode cX0_putIntoTurns 1 = .ok (.iload_n 1, 1) := by decide +kernel
theorem dX0_putIntoTurns_2 : decode cX0_putIntoTurns 2 = .ok (.invokevirtual 77, 3) := by decide +kernel
theorem dX0_putIntoTurns_5 : decode cX0_putIntoTurns 5 = .ok (.istore_n 3, 1) := by decide +kernel
theorem dX0_putIntoTurns_6 : decode cX0_putIntoTurns 6 = .ok (.iload_n 2, 1) := by decide +kernel
theorem dX0_putIntoTurns_7 : decode cX0_putIntoTurns 7 = .ok (.istore 4, 2) := by decide +kernel
theorem dX0_putIntoTurns_9 : decode cX0_putIntoTurns 9 = .ok (.iload 4, 2) := by decide +kernel
theorem dX0_putIntoTurns_11 : decode cX0_putIntoTurns 11 = .ok (.ifCond .le 42, 3) := by decide +kernel
theorem dX0_putIntoTurns_14 : decode cX0_putIntoTurns 14 = .ok (.aload_n 0, 1) := by decide +kernel
theorem dX0_putIntoTurns_15 : decode cX0_putIntoTurns 15 = .ok (.aload_n 0, 1) := by decide +kernel
theorem dX0_putIntoTurns_16 : decode cX0_putIntoTurns 16 = .ok (.getfield 31, 3) := by decide +kernel
theorem dX0_putIntoTurns_19 : decode cX0_putIntoTurns 19 = .ok (.iload 4, 2) := by decide +kernel
theorem dX0_putIntoTurns_21 : decode cX0_putIntoTurns 21 = .ok (.iconst 1, 1) := by decide +kernel
theorem dX0_putIntoTurns_22 : decode cX0_putIntoTurns 22 = .ok (.isub, 1) := by decide +kernel
theorem dX0_putIntoTurns_23 : decode cX0_putIntoTurns 23 = .ok (.iaload, 1) := by decide +kernel
theorem dX0_putIntoTurns_24 : decode cX0_putIntoTurns 24 = .ok (.invokevirtual 77, 3) := by decide +kernel
theorem dX0_putIntoTurns_27 : decode cX0_putIntoTurns 27 = .ok (.iload_n 3, 1) := by decide +kernel
theorem dX0_putIntoTurns_28 : decode cX0_putIntoTurns 28 = .ok (.if_icmp .le 25, 3) := by decide +kernel
theorem dX0_putIntoTurns_31 : decode cX0_putIntoTurns 31 = .ok (.aload_n 0, 1) := by decide +kernel
theorem dX0_putIntoTurns_32 : decode cX0_putIntoTurns 32 = .ok (.getfield 31, 3) := by decide +kernel
theorem dX0_putIntoTurns_35 : decode cX0_putIntoTurns 35 = .ok (.iload 4, 2) := by decide +kernel
theorem dX0_putIntoTurns_37 : decode cX0_putIntoTurns 37 = .ok (.aload_n 0, 1) := by decide +kernel
theorem dX0_putIntoTurns_38 : decode cX0_putIntoTurns 38 = .ok (.getfield 31, 3) := by decide +kernel
theorem dX0_putIntoTurns_41 : decode cX0_putIntoTurns 41 = .ok (.iload 4, 2) := by decide +kernel
theorem dX0_putIntoTurns_43 : decode cX0_putIntoTurns 43 = .ok (.iconst 1, 1) := by decide +kernel
theorem dX0_putIntoTurns_44 : decode cX0_putIntoTurns 44 = .ok (.isub, 1) := by decide +kernel
theorem dX0_putIntoTurns_45 : decode cX0_putIntoTurns 45 = .ok (.iaload, 1) := by decide +kernel
theorem dX0_putIntoTurns_46 : decode cX0_putIntoTurns 46 = .ok (.iastore, 1) := by decide +kernel
theorem dX0_putIntoTurns_47 : decode cX0_putIntoTurns 47 = .ok (.iinc 4 (-1), 3) := by decide +kernel
theorem dX0_putIntoTurns_50 : decode cX0_putIntoTurns 50 = .ok (.goto (-41), 3) := by decide +kernel
theorem dX0_putIntoTurns_53 : decode cX0_putIntoTurns 53 = .ok (.aload_n 0, 1) := by decide +kernel
theorem dX0_putIntoTurns_54 : decode cX0_putIntoTurns 54 = .ok (.getfield 31, 3) := by decide +kernel
theorem dX0_putIntoTurns_57 : decode cX0_putIntoTurns 57 = .ok (.iload 4, 2) := by decide +kernel
theorem dX0_putIntoTurns_59 : decode cX0_putIntoTurns 59 = .ok (.iload_n 1, 1) := by decide +kernel
theorem dX0_putIntoTurns_60 : decode cX0_putIntoTurns 60 = .ok (.iastore, 1) := by decide +kernel
theorem dX0_putIntoTurns_61 : decode cX0_putIntoTurns 61 = .ok (.return_, 1) := by decide +kernel
set_option maxRecDepth 20000 in
theorem ggX0_shareFairly_X0_raiseAll : GoodIn wsX0_shareFairly wsX0_raiseAll := goodIn_r _ [5, 6, 7, 8, 9, 10, 11, 4, 12, 13, 14, 15, 16, 17, 18, 19, 20, 21, 22, 23, 24, 25, 26, 27, 28, 29, 30, 31, 32, 33, 34, 35, 36, 37, 38, 39, 40, 41, 42, 43] (by decide +kernel) (by decide +kernel)
set_option maxRecDepth 20000 in
theorem gX0_shareFairly_X0_raiseAll : GoodIn wsX0_shareFairly (wsV RX0 173 RX0 yX0_raiseAll wsX0_raiseAll) := goodIn_app (goodIn_of _ (by decide +kernel)) ggX0_shareFairly_X0_raiseAll
theorem dX0_shareFairly_0 : decode cX0_shareFairly 0 = .ok (.iconst 1, 1) := by decide +kernel
theorem dX0_shareFairly_1 : decode cX0_shareFairly 1 = .ok (.istore_n 1, 1) := by decide +kernel
theorem dX0_shareFairly_2 : decode cX0_shareFairly 2 = .ok (.iconst 0, 1) := by decide +kernel
theorem dX0_shareFairly_3 : decode cX0_shareFairly 3 = .ok (.istore_n 2, 1) := by decide +kernel
theorem dX0_shareFairly_4 : decode cX0_shareFairly 4 = .ok (.iload_n 1, 1) := by decide +kernel
theorem dX0_shareFairly_5 : decode cX0_shareFairly 5 = .ok (.ifCond .eq 20, 3) := by decide +kernel
theorem dX0_shareFairly_8 : decode cX0_shareFairly 8 = .ok (.iload_n 2, 1) := by decide +kernel
theorem dX0_shareFairly_9 : decode cX0_shareFairly 9 = .ok (.bipush 32, 2) := by decide +kernel
theorem dX0_shareFairly_11 : decode cX0_shareFairly 11 = .ok (.if_icmp .ge 14, 3) := by decide +kernel
theorem dX0_shareFairly_14 : decode cX0_shareFairly 14 = .ok (.aload_n 0, 1) := by decide +kernel
theorem dX0_shareFairly_15 : decode cX0_shareFairly 15 = .ok (.invokevirtual 173, 3) := by decide +kernel
theorem dX0_shareFairly_18 : decode cX0_shareFairly 18 = .ok (.istore_n 1, 1) := by decide +kernel
theorem dX0_shareFairly_19 : decode cX0_shareFairly 19 = .ok (.iinc 2 1, 3) := by decide +kernel
theorem dX0_shareFairly_22 : decode cX0_shareFairly 22 = .ok (.goto (-18), 3) := by decide +kernel
theorem dX0_shareFairly_25 : decode cX0_shareFairly 25 = .ok (.return_, 1) := by decide +kernel
set_option maxRecDepth 20000 in
theorem ggX0_raiseAll_X0_roomFor : GoodIn wsX0_raiseAll wsX0_roomFor := goodIn_r _ [8, 9, 10, 11, 12, 13, 14, 15, 16, 17, 7, 18, 19, 24, 25, 26, 27, 28, 29, 30, 31, 32, 33, 34, 35, 36, 37, 38, 39] (by decide +kernel) (by decide +kernel)
set_option maxRecDepth 20000 in
theorem gX0_raiseAll_X0_roomFor : GoodIn wsX0_raiseAll (wsV RX0 167 RX0 yX0_roomFor wsX0_roomFor) := goodIn_app (goodIn_of _ (by decide +kernel)) ggX0_raiseAll_X0_roomFor
set_option maxRecDepth 20000 in
theorem ggX0_raiseAll_X0_give : GoodIn wsX0_raiseAll wsX0_give := goodIn_r _ [23, 2, 10, 15, 16, 17, 7, 18, 19, 24, 25, 26, 27, 28, 29, 30, 31, 32, 33, 34, 35, 36, 37, 38, 39] (by decide +kernel) (by decide +kernel)
set_option maxRecDepth 20000 in
theorem gX0_raiseAll_X0_give : GoodIn wsX0_raiseAll (wsV RX0 170 RX0 yX0_give wsX0_give) := goodIn_app (goodIn_of _ (by decide +kernel)) ggX0_raiseAll_X0_give
theorem dX0_raiseAll_0 : decode cX0_raiseAll 0 = .ok (.iconst 0, 1) := by decide +kernel
theorem dX0_raiseAll_1 : decode cX0_raiseAll 1 = .ok (.istore_n 1, 1) := by decide +kernel
theorem dX0_raiseAll_2 : decode cX0_raiseAll 2 = .ok (.iconst 0, 1) := by decide +kernel
theorem dX0_raiseAll_3 : decode cX0_raiseAll 3 = .ok (.istore_n 2, 1) := by decide +kernel
theorem dX0_raiseAll_4 : decode cX0_raiseAll 4 = .ok (.iload_n 2, 1) := by decide +kernel
theorem dX0_raiseAll_5 : decode cX0_raiseAll 5 = .ok (.aload_n 0, 1) := by decide +kernel
theorem dX0_raiseAll_6 : decode cX0_raiseAll 6 = .ok (.getfield 55, 3) := by decide +kernel
theorem dX0_raiseAll_9 : decode cX0_raiseAll 9 = .ok (.if_icmp .ge 40, 3) := by decide +kernel
theorem dX0_raiseAll_12 : decode cX0_raiseAll 12 = .ok (.aload_n 0, 1) := by decide +kernel
theorem dX0_raiseAll_13 : decode cX0_raiseAll 13 = .ok (.getfield 28, 3) := by decide +kernel
theorem dX0_raiseAll_16 : decode cX0_raiseAll 16 = .ok (.iload_n 2, 1) := by decide +kernel
theorem dX0_raiseAll_17 : decode cX0_raiseAll 17 = .ok (.iaload, 1) := by decide +kernel
theorem dX0_raiseAll_18 : decode cX0_raiseAll 18 = .ok (.aload_n 0, 1) := by decide +kernel
theorem dX0_raiseAll_19 : decode cX0_raiseAll 19 = .ok (.getfield 25, 3) := by decide +kernel
theorem dX0_raiseAll_22 : decode cX0_raiseAll 22 = .ok (.iload_n 2, 1) := by decide +kernel
theorem dX0_raiseAll_23 : decode cX0_raiseAll 23 = .ok (.iaload, 1) := by decide +kernel
theorem dX0_raiseAll_24 : decode cX0_raiseAll 24 = .ok (.if_icmp .ge 19, 3) := by decide +kernel
theorem dX0_raiseAll_27 : decode cX0_raiseAll 27 = .ok (.aload_n 0, 1) := by decide +kernel
theorem dX0_raiseAll_28 : decode cX0_raiseAll 28 = .ok (.iload_n 2, 1) := by decide +kernel
theorem dX0_raiseAll_29 : decode cX0_raiseAll 29 = .ok (.invokevirtual 167, 3) := by decide +kernel
theorem dX0_raiseAll_32 : decode cX0_raiseAll 32 = .ok (.ifCond .le 11, 3) := by decide +kernel
theorem dX0_raiseAll_35 : decode cX0_raiseAll 35 = .ok (.aload_n 0, 1) := by decide +kernel
theorem dX0_raiseAll_36 : decode cX0_raiseAll 36 = .ok (.iload_n 2, 1) := by decide +kernel
theorem dX0_raiseAll_37 : decode cX0_raiseAll 37 = .ok (.iconst 1, 1) := by decide +kernel
theorem dX0_raiseAll_38 : decode cX0_raiseAll 38 = .ok (.invokevirtual 170, 3) := by decide +kernel
theorem dX0_raiseAll_41 : decode cX0_raiseAll 41 = .ok (.iconst 1, 1) := by decide +kernel
theorem dX0_raiseAll_42 : decode cX0_raiseAll 42 = .ok (.istore_n 1, 1) := by decide +kernel
theorem dX0_raiseAll_43 : decode cX0_raiseAll 43 = .ok (.iinc 2 1, 3) := by decide +kernel
theorem dX0_raiseAll_46 : decode cX0_raiseAll 46 = .ok (.goto (-42), 3) := by decide +kernel
theorem dX0_raiseAll_49 : decode cX0_raiseAll 49 = .ok (.iload_n 1, 1) := by decide +kernel
theorem dX0_raiseAll_50 : decode cX0_raiseAll 50 = .ok (.ireturn, 1) := by decide +kernel
set_option maxRecDepth 20000 in
theorem ggX0_keepBalance_X0_differenceOfLoads : GoodIn wsX0_keepBalance wsX0_differenceOfLoads := goodIn_r _ [6, 7, 8, 9, 10, 11, 12, 13, 14, 34, 35, 36, 37, 38, 39, 40, 41, 42, 43, 44, 45, 46, 47, 48, 49] (by decide +kernel) (by decide +kernel)
set_option maxRecDepth 20000 in
theorem gX0_keepBalance_X0_differenceOfLoads : GoodIn wsX0_keepBalance (wsV RX0 108 RX0 yX0_differenceOfLoads wsX0_differenceOfLoads) := goodIn_app (goodIn_of _ (by decide +kernel)) ggX0_keepBalance_X0_differenceOfLoads
set_option maxRecDepth 20000 in
theorem ggX0_keepBalance_X0_phaseOfGreatestLoad : GoodIn wsX0_keepBalance wsX0_phaseOfGreatestLoad := goodIn_r _ [18, 7, 34, 35, 36, 37, 38, 39, 40, 41, 42, 43, 44, 45, 46, 47, 48, 49] (by decide +kernel) (by decide +kernel)
set_option maxRecDepth 20000 in
theorem gX0_keepBalance_X0_phaseOfGreatestLoad : GoodIn wsX0_keepBalance (wsV RX0 177 RX0 yX0_phaseOfGreatestLoad wsX0_phaseOfGreatestLoad) := goodIn_app (goodIn_of _ (by decide +kernel)) ggX0_keepBalance_X0_phaseOfGreatestLoad
set_option maxRecDepth 20000 in
theorem ggX0_keepBalance_X0_mostGivenAloneAt : GoodIn wsX0_keepBalance wsX0_mostGivenAloneAt := goodIn_r _ [22, 23, 24, 25, 34, 35, 36, 37, 38, 39, 40, 41, 42, 43, 44, 45, 46, 47, 48, 49] (by decide +kernel) (by decide +kernel)
set_option maxRecDepth 20000 in
theorem gX0_keepBalance_X0_mostGivenAloneAt : GoodIn wsX0_keepBalance (wsV RX0 180 RX0 yX0_mostGivenAloneAt wsX0_mostGivenAloneAt) := goodIn_app (goodIn_of _ (by decide +kernel)) ggX0_keepBalance_X0_mostGivenAloneAt
set_option maxRecDepth 20000 in
theorem ggX0_keepBalance_X0_give : GoodIn wsX0_keepBalance wsX0_give := goodIn_r _ [29, 25, 7, 30, 31, 32, 5, 33, 24, 34, 35, 36, 37, 38, 39, 40, 41, 42, 43, 44, 45, 46, 47, 48, 49] (by decide +kernel) (by decide +kernel)
set_option maxRecDepth 20000 in
theorem gX0_keepBalance_X0_give : GoodIn wsX0_keepBalance (wsV RX0 170 RX0 yX0_give wsX0_give) := goodIn_app (goodIn_of _ (by decide +kernel)) ggX0_keepBalance_X0_give
theorem dX0_keepBalance_0 : decode cX0_keepBalance 0 = .ok (.iconst 0, 1) := by decide +kernel
theorem dX0_keepBalance_1 : decode cX0_keepBalance 1 = .ok (.istore_n 1, 1) := by decide +kernel
theorem dX0_keepBalance_2 : decode cX0_keepBalance 2 = .ok (.iload_n 1, 1) := by decide +kernel
theorem dX0_keepBalance_3 : decode cX0_keepBalance 3 = .ok (.sipush 256, 3) := by decide +kernel
theorem dX0_keepBalance_6 : decode cX0_keepBalance 6 = .ok (.if_icmp .ge 42, 3) := by decide +kernel
theorem dX0_keepBalance_9 : decode cX0_keepBalance 9 = .ok (.aload_n 0, 1) := by decide +kernel
theorem dX0_keepBalance_10 : decode cX0_keepBalance 10 = .ok (.invokevirtual 108, 3) := by decide +kernel
theorem dX0_keepBalance_13 : decode cX0_keepBalance 13 = .ok (.aload_n 0, 1) := by decide +kernel
theorem dX0_keepBalance_14 : decode cX0_keepBalance 14 = .ok (.getfield 40, 3) := by decide +kernel
theorem dX0_keepBalance_17 : decode cX0_keepBalance 17 = .ok (.if_icmp .gt 4, 3) := by decide +kernel
theorem dX0_keepBalance_20 : decode cX0_keepBalance 20 = .ok (.return_, 1) := by decide +kernel
theorem dX0_keepBalance_21 : decode cX0_keepBalance 21 = .ok (.aload_n 0, 1) := by decide +kernel
theorem dX0_keepBalance_22 : decode cX0_keepBalance 22 = .ok (.aload_n 0, 1) := by decide +kernel
theorem dX0_keepBalance_23 : decode cX0_keepBalance 23 = .ok (.invokevirtual 177, 3) := by decide +kernel
theorem dX0_keepBalance_26 : decode cX0_keepBalance 26 = .ok (.invokevirtual 180, 3) := by decide +kernel
theorem dX0_keepBalance_29 : decode cX0_keepBalance 29 = .ok (.istore_n 2, 1) := by decide +kernel
theorem dX0_keepBalance_30 : decode cX0_keepBalance 30 = .ok (.iload_n 2, 1) := by decide +kernel
theorem dX0_keepBalance_31 : decode cX0_keepBalance 31 = .ok (.iconst (-1), 1) := by decide +kernel
theorem dX0_keepBalance_32 : decode cX0_keepBalance 32 = .ok (.if_icmp .ne 4, 3) := by decide +kernel
theorem dX0_keepBalance_35 : decode cX0_keepBalance 35 = .ok (.return_, 1) := by decide +kernel
theorem dX0_keepBalance_36 : decode cX0_keepBalance 36 = .ok (.aload_n 0, 1) := by decide +kernel
theorem dX0_keepBalance_37 : decode cX0_keepBalance 37 = .ok (.iload_n 2, 1) := by decide +kernel
theorem dX0_keepBalance_38 : decode cX0_keepBalance 38 = .ok (.iconst (-1), 1) := by decide +kernel
theorem dX0_keepBalance_39 : decode cX0_keepBalance 39 = .ok (.invokevirtual 170, 3) := by decide +kernel
theorem dX0_keepBalance_42 : decode cX0_keepBalance 42 = .ok (.iinc 1 1, 3) := by decide +kernel
theorem dX0_keepBalance_45 : decode cX0_keepBalance 45 = .ok (.goto (-43), 3) := by decide +kernel
theorem dX0_keepBalance_48 : decode cX0_keepBalance 48 = .ok (.return_, 1) := by decide +kernel
theorem dX0_differenceOfLoads_0 : decode cX0_differenceOfLoads 0 = .ok (.aload_n 0, 1) := by decide +kernel
theorem dX0_differenceOfLoads_1 : decode cX0_differenceOfLoads 1 = .ok (.getfield 34, 3) := by decide +kernel
theorem dX0_differenceOfLoads_4 : decode cX0_differenceOfLoads 4 = .ok (.iconst 0, 1) := by decide +kernel
theorem dX0_differenceOfLoads_5 : decode cX0_differenceOfLoads 5 = .ok (.iaload, 1) := by decide +kernel
theorem dX0_differenceOfLoads_6 : decode cX0_differenceOfLoads 6 = .ok (.aload_n 0, 1) := by decide +kernel
theorem dX0_differenceOfLoads_7 : decode cX0_differenceOfLoads 7 = .ok (.getfield 34, 3) := by decide +kernel
theorem dX0_differenceOfLoads_10 : decode cX0_differenceOfLoads 10 = .ok (.iconst 1, 1) := by decide +kernel
theorem dX0_differenceOfLoads_11 : decode cX0_differenceOfLoads 11 = .ok (.iaload, 1) := by decide +kernel
theorem dX0_differenceOfLoads_12 : decode cX0_differenceOfLoads 12 = .ok (.aload_n 0, 1) := by decide +kernel
theorem dX0_differenceOfLoads_13 : decode cX0_differenceOfLoads 13 = .ok (.getfield 34, 3) := by decide +kernel
theorem dX0_differenceOfLoads_16 : decode cX0_differenceOfLoads 16 = .ok (.iconst 2, 1) := by decide +kernel
theorem dX0_differenceOfLoads_17 : decode cX0_differenceOfLoads 17 = .ok (.iaload, 1) := by decide +kernel
theorem dX0_differenceOfLoads_18 : decode cX0_differenceOfLoads 18 = .ok (.invokestatic 87, 3) := by decide +kernel
theorem dX0_differenceOfLoads_21 : decode cX0_differenceOfLoads 21 = .ok (.invokestatic 87, 3) := by decide +kernel
theorem dX0_differenceOfLoads_24 : decode cX0_differenceOfLoads 24 = .ok (.istore_n 1, 1) := by decide +kernel
theorem dX0_differenceOfLoads_25 : decode cX0_differenceOfLoads 25 = .ok (.aload_n 0, 1) := by decide +kernel
theorem dX0_differenceOfLoads_26 : decode cX0_differenceOfLoads 26 = .ok (.getfield 34, 3) := by decide +kernel
theorem dX0_differenceOfLoads_29 : decode cX0_differenceOfLoads 29 = .ok (.iconst 0, 1) := by decide +kernel
theorem dX0_differenceOfLoads_30 : decode cX0_differenceOfLoads 30 = .ok (.iaload, 1) := by decide +kernel
theorem dX0_differenceOfLoads_31 : decode cX0_differenceOfLoads 31 = .ok (.aload_n 0, 1) := by decide +kernel
theorem dX0_differenceOfLoads_32 : decode cX0_differenceOfLoads 32 = .ok (.getfield 34, 3) := by decide +kernel
theorem dX0_differenceOfLoads_35 : decode cX0_differenceOfLoads 35 = .ok (.iconst 1, 1) := by decide +kernel
theorem dX0_differenceOfLoads_36 : decode cX0_differenceOfLoads 36 = .ok (.iaload, 1) := by decide +kernel
theorem dX0_differenceOfLoads_37 : decode cX0_differenceOfLoads 37 = .ok (.aload_n 0, 1) := by decide +kernel
theorem dX0_differenceOfLoads_38 : decode cX0_differenceOfLoads 38 = .ok (.getfield 34, 3) := by decide +kernel
theorem dX0_differenceOfLoads_41 : decode cX0_differenceOfLoads 41 = .ok (.iconst 2, 1) := by decide +kernel
theorem dX0_differenceOfLoads_42 : decode cX0_differenceOfLoads 42 = .ok (.iaload, 1) := by decide +kernel
theorem dX0_differenceOfLoads_43 : decode cX0_differenceOfLoads 43 = .ok (.invokestatic 132, 3) := by decide +kernel
theorem dX0_differenceOfLoads_46 : decode cX0_differenceOfLoads 46 = .ok (.invokestatic 132, 3) := by decide +kernel
theorem dX0_differenceOfLoads_49 : decode cX0_differenceOfLoads 49 = .ok (.istore_n 2, 1) := by decide +kernel
theorem dX0_differenceOfLoads_50 : decode cX0_differenceOfLoads 50 = .ok (.iload_n 1, 1) := by decide +kernel
theorem dX0_differenceOfLoads_51 : decode cX0_differenceOfLoads 51 = .ok (.iload_n 2, 1) := by decide +kernel
theorem dX0_differenceOfLoads_52 : decode cX0_differenceOfLoads 52 = .ok (.isub, 1) := by decide +kernel
theorem dX0_differenceOfLoads_53 : decode cX0_differenceOfLoads 53 = .ok (.ireturn, 1) := by decide +kernel
theorem dX0_phaseOfGreatestLoad_0 : decode cX0_phaseOfGreatestLoad 0 = .ok (.iconst 0, 1) := by decide +kernel
theorem dX0_phaseOfGreatestLoad_1 : decode cX0_phaseOfGreatestLoad 1 = .ok (.istore_n 1, 1) := by decide +kernel
theorem dX0_phaseOfGreatestLoad_2 : decode cX0_phaseOfGreatestLoad 2 = .ok (.iconst 1, 1) := by decide +kernel
theorem dX0_phaseOfGreatestLoad_3 : decode cX0_phaseOfGreatestLoad 3 = .ok (.istore_n 2, 1) := by decide +kernel
theorem dX0_phaseOfGreatestLoad_4 : decode cX0_phaseOfGreatestLoad 4 = .ok (.iload_n 2, 1) := by decide +kernel
theorem dX0_phaseOfGreatestLoad_5 : decode cX0_phaseOfGreatestLoad 5 = .ok (.iconst 3, 1) := by decide +kernel
theorem dX0_phaseOfGreatestLoad_6 : decode cX0_phaseOfGreatestLoad 6 = .ok (.if_icmp .ge 26, 3) := by decide +kernel
theorem dX0_phaseOfGreatestLoad_9 : decode cX0_phaseOfGreatestLoad 9 = .ok (.aload_n 0, 1) := by decide +kernel
theorem dX0_phaseOfGreatestLoad_10 : decode cX0_phaseOfGreatestLoad 10 = .ok (.getfield 34, 3) := by decide +kernel
theorem dX0_phaseOfGreatestLoad_13 : decode cX0_phaseOfGreatestLoad 13 = .ok (.iload_n 2, 1) := by decide +kernel
theorem dX0_phaseOfGreatestLoad_14 : decode cX0_phaseOfGreatestLoad 14 = .ok (.iaload, 1) := by decide +kernel
theorem dX0_phaseOfGreatestLoad_15 : decode cX0_phaseOfGreatestLoad 15 = .ok (.aload_n 0, 1) := by decide +kernel
theorem dX0_phaseOfGreatestLoad_16 : decode cX0_phaseOfGreatestLoad 16 = .ok (.getfield 34, 3) := by decide +kernel
theorem dX0_phaseOfGreatestLoad_19 : decode cX0_phaseOfGreatestLoad 19 = .ok (.iload_n 1, 1) := by decide +kernel
theorem dX0_phaseOfGreatestLoad_20 : decode cX0_phaseOfGreatestLoad 20 = .ok (.iaload, 1) := by decide +kernel
theorem dX0_phaseOfGreatestLoad_21 : decode cX0_phaseOfGreatestLoad 21 = .ok (.if_icmp .le 5, 3) := by decide +kernel
theorem dX0_phaseOfGreatestLoad_24 : decode cX0_phaseOfGreatestLoad 24 = .ok (.iload_n 2, 1) := by decide +kernel
theorem dX0_phaseOfGreatestLoad_25 : decode cX0_phaseOfGreatestLoad 25 = .ok (.istore_n 1, 1) := by decide +kernel
theorem dX0_phaseOfGreatestLoad_26 : decode cX0_phaseOfGreatestLoad 26 = .ok (.iinc 2 1, 3) := by decide +kernel
theorem dX0_phaseOfGreatestLoad_29 : decode cX0_phaseOfGreatestLoad 29 = .ok (.goto (-25), 3) := by decide +kernel
theorem dX0_phaseOfGreatestLoad_32 : decode cX0_phaseOfGreatestLoad 32 = .ok (.iload_n 1, 1) := by decide +kernel
theorem dX0_phaseOfGreatestLoad_33 : decode cX0_phaseOfGreatestLoad 33 = .ok (.ireturn, 1) := by decide +kernel
theorem dX0_mostGivenAloneAt_0 : decode cX0_mostGivenAloneAt 0 = .ok (.iconst (-1), 1) := by decide +kernel
theorem dX0_mostGivenAloneAt_1 : decode cX0_mostGivenAloneAt 1 = .ok (.istore_n 2, 1) := by decide +kernel
theorem dX0_mostGivenAloneAt_2 : decode cX0_mostGivenAloneAt 2 = .ok (.iconst 1, 1) := by decide +kernel
theorem dX0_mostGivenAloneAt_3 : decode cX0_mostGivenAloneAt 3 = .ok (.istore_n 3, 1) := by decide +kernel
theorem dX0_mostGivenAloneAt_4 : decode cX0_mostGivenAloneAt 4 = .ok (.iconst 0, 1) := by decide +kernel
theorem dX0_mostGivenAloneAt_5 : decode cX0_mostGivenAloneAt 5 = .ok (.istore 4, 2) := by decide +kernel
theorem dX0_mostGivenAloneAt_7 : decode cX0_mostGivenAloneAt 7 = .ok (.iload 4, 2) := by decide +kernel
theorem dX0_mostGivenAloneAt_9 : decode cX0_mostGivenAloneAt 9 = .ok (.aload_n 0, 1) := by decide +kernel
theorem dX0_mostGivenAloneAt_10 : decode cX0_mostGivenAloneAt 10 = .ok (.getfield 55, 3) := by decide +kernel
theorem dX0_mostGivenAloneAt_13 : decode cX0_mostGivenAloneAt 13 = .ok (.if_icmp .ge 42, 3) := by decide +kernel
theorem dX0_mostGivenAloneAt_16 : decode cX0_mostGivenAloneAt 16 = .ok (.aload_n 0, 1) := by decide +kernel
theorem dX0_mostGivenAloneAt_17 : decode cX0_mostGivenAloneAt 17 = .ok (.getfield 9, 3) := by decide +kernel
theorem dX0_mostGivenAloneAt_20 : decode cX0_mostGivenAloneAt 20 = .ok (.iload 4, 2) := by decide +kernel
theorem dX0_mostGivenAloneAt_22 : decode cX0_mostGivenAloneAt 22 = .ok (.iaload, 1) := by decide +kernel
theorem dX0_mostGivenAloneAt_23 : decode cX0_mostGivenAloneAt 23 = .ok (.iload_n 1, 1) := by decide +kernel
theorem dX0_mostGivenAloneAt_24 : decode cX0_mostGivenAloneAt 24 = .ok (.if_icmp .ne 25, 3) := by decide +kernel
theorem dX0_mostGivenAloneAt_27 : decode cX0_mostGivenAloneAt 27 = .ok (.aload_n 0, 1) := by decide +kernel
theorem dX0_mostGivenAloneAt_28 : decode cX0_mostGivenAloneAt 28 = .ok (.getfield 28, 3) := by decide +kernel
theorem dX0_mostGivenAloneAt_31 : decode cX0_mostGivenAloneAt 31 = .ok (.iload 4, 2) := by decide +kernel
theorem dX0_mostGivenAloneAt_33 : decode cX0_mostGivenAloneAt 33 = .ok (.iaload, 1) := by decide +kernel
theorem dX0_mostGivenAloneAt_34 : decode cX0_mostGivenAloneAt 34 = .ok (.iload_n 3, 1) := by decide +kernel
theorem dX0_mostGivenAloneAt_35 : decode cX0_mostGivenAloneAt 35 = .ok (.if_icmp .lt 14, 3) := by decide +kernel
theorem dX0_mostGivenAloneAt_38 : decode cX0_mostGivenAloneAt 38 = .ok (.iload 4, 2) := by decide +kernel
theorem dX0_mostGivenAloneAt_40 : decode cX0_mostGivenAloneAt 40 = .ok (.istore_n 2, 1) := by decide +kernel
theorem dX0_mostGivenAloneAt_41 : decode cX0_mostGivenAloneAt 41 = .ok (.aload_n 0, 1) := by decide +kernel
theorem dX0_mostGivenAloneAt_42 : decode cX0_mostGivenAloneAt 42 = .ok (.getfield 28, 3) := by decide +kernel
theorem dX0_mostGivenAloneAt_45 : decode cX0_mostGivenAloneAt 45 = .ok (.iload 4, 2) := by decide +kernel
theorem dX0_mostGivenAloneAt_47 : decode cX0_mostGivenAloneAt 47 = .ok (.iaload, 1) := by decide +kernel
theorem dX0_mostGivenAloneAt_48 : decode cX0_mostGivenAloneAt 48 = .ok (.istore_n 3, 1) := by decide +kernel
theorem dX0_mostGivenAloneAt_49 : decode cX0_mostGivenAloneAt 49 = .ok (.iinc 4 1, 3) := by decide +kernel
theorem dX0_mostGivenAloneAt_52 : decode cX0_mostGivenAloneAt 52 = .ok (.goto (-45), 3) := by decide +kernel
theorem dX0_mostGivenAloneAt_55 : decode cX0_mostGivenAloneAt 55 = .ok (.iload_n 2, 1) := by decide +kernel
theorem dX0_mostGivenAloneAt_56 : decode cX0_mostGivenAloneAt 56 = .ok (.ireturn, 1) := by decide +kernel
theorem dX0_givenAtAllPhases_0 : decode cX0_givenAtAllPhases 0 = .ok (.iconst 0, 1) := by decide +kernel
theorem dX0_givenAtAllPhases_1 : decode cX0_givenAtAllPhases 1 = .ok (.istore_n 1, 1) := by decide +kernel
theorem dX0_givenAtAllPhases_2 : decode cX0_givenAtAllPhases 2 = .ok (.iconst 0, 1) := by decide +kernel
theorem dX0_givenAtAllPhases_3 : decode cX0_givenAtAllPhases 3 = .ok (.istore_n 2, 1) := by decide +kernel
theorem dX0_givenAtAllPhases_4 : decode cX0_givenAtAllPhases 4 = .ok (.iload_n 2, 1) := by decide +kernel
theorem dX0_givenAtAllPhases_5 : decode cX0_givenAtAllPhases 5 = .ok (.aload_n 0, 1) := by decide +kernel
theorem dX0_givenAtAllPhases_6 : decode cX0_givenAtAllPhases 6 = .ok (.getfield 55, 3) := by decide +kernel
theorem dX0_givenAtAllPhases_9 : decode cX0_givenAtAllPhases 9 = .ok (.if_icmp .ge 28, 3) := by decide +kernel
theorem dX0_givenAtAllPhases_12 : decode cX0_givenAtAllPhases 12 = .ok (.aload_n 0, 1) := by decide +kernel
theorem dX0_givenAtAllPhases_13 : decode cX0_givenAtAllPhases 13 = .ok (.getfield 9, 3) := by decide +kernel
theorem dX0_givenAtAllPhases_16 : decode cX0_givenAtAllPhases 16 = .ok (.iload_n 2, 1) := by decide +kernel
theorem dX0_givenAtAllPhases_17 : decode cX0_givenAtAllPhases 17 = .ok (.iaload, 1) := by decide +kernel
theorem dX0_givenAtAllPhases_18 : decode cX0_givenAtAllPhases 18 = .ok (.iconst 3, 1) := by decide +kernel
theorem dX0_givenAtAllPhases_19 : decode cX0_givenAtAllPhases 19 = .ok (.if_icmp .ne 12, 3) := by decide +kernel
theorem dX0_givenAtAllPhases_22 : decode cX0_givenAtAllPhases 22 = .ok (.iload_n 1, 1) := by decide +kernel
theorem dX0_givenAtAllPhases_23 : decode cX0_givenAtAllPhases 23 = .ok (.aload_n 0, 1) := by decide +kernel
theorem dX0_givenAtAllPhases_24 : decode cX0_givenAtAllPhases 24 = .ok (.getfield 28, 3) := by decide +kernel
theorem dX0_givenAtAllPhases_27 : decode cX0_givenAtAllPhases 27 = .ok (.iload_n 2, 1) := by decide +kernel
theorem dX0_givenAtAllPhases_28 : decode cX0_givenAtAllPhases 28 = .ok (.iaload, 1) := by decide +kernel
theorem dX0_givenAtAllPhases_29 : decode cX0_givenAtAllPhases 29 = .ok (.iadd, 1) := by decide +kernel
theorem dX0_givenAtAllPhases_30 : decode cX0_givenAtAllPhases 30 = .ok (.istore_n 1, 1) := by decide +kernel
theorem dX0_givenAtAllPhases_31 : decode cX0_givenAtAllPhases 31 = .ok (.iinc 2 1, 3) := by decide +kernel
theorem dX0_givenAtAllPhases_34 : decode cX0_givenAtAllPhases 34 = .ok (.goto (-30), 3) := by decide +kernel
theorem dX0_givenAtAllPhases_37 : decode cX0_givenAtAllPhases 37 = .ok (.iload_n 1, 1) := by decide +kernel
theorem dX0_givenAtAllPhases_38 : decode cX0_givenAtAllPhases 38 = .ok (.ireturn, 1) := by decide +kernel
theorem dX0_usedAtLevel_0 : decode cX0_usedAtLevel 0 = .ok (.iconst 0, 1) := by decide +kernel
theorem dX0_usedAtLevel_1 : decode cX0_usedAtLevel 1 = .ok (.istore_n 3, 1) := by decide +kernel
theorem dX0_usedAtLevel_2 : decode cX0_usedAtLevel 2 = .ok (.iconst 0, 1) := by decide +kernel
theorem dX0_usedAtLevel_3 : decode cX0_usedAtLevel 3 = .ok (.istore 4, 2) := by decide +kernel
theorem dX0_usedAtLevel_5 : decode cX0_usedAtLevel 5 = .ok (.iload 4, 2) := by decide +kernel
theorem dX0_usedAtLevel_7 : decode cX0_usedAtLevel 7 = .ok (.aload_n 0, 1) := by decide +kernel
theorem dX0_usedAtLevel_8 : decode cX0_usedAtLevel 8 = .ok (.getfield 55, 3) := by decide +kernel
theorem dX0_usedAtLevel_11 : decode cX0_usedAtLevel 11 = .ok (.if_icmp .ge 34, 3) := by decide +kernel
theorem dX0_usedAtLevel_14 : decode cX0_usedAtLevel 14 = .ok (.aload_n 0, 1) := by decide +kernel
theorem dX0_usedAtLevel_15 : decode cX0_usedAtLevel 15 = .ok (.getfield 9, 3) := by decide +kernel
theorem dX0_usedAtLevel_18 : decode cX0_usedAtLevel 18 = .ok (.iload 4, 2) := by decide +kernel
theorem dX0_usedAtLevel_20 : decode cX0_usedAtLevel 20 = .ok (.iaload, 1) := by decide +kernel
theorem dX0_usedAtLevel_21 : decode cX0_usedAtLevel 21 = .ok (.iload_n 1, 1) := by decide +kernel
theorem dX0_usedAtLevel_22 : decode cX0_usedAtLevel 22 = .ok (.if_icmp .ne 17, 3) := by decide +kernel
theorem dX0_usedAtLevel_25 : decode cX0_usedAtLevel 25 = .ok (.iload_n 3, 1) := by decide +kernel
theorem dX0_usedAtLevel_26 : decode cX0_usedAtLevel 26 = .ok (.aload_n 0, 1) := by decide +kernel
theorem dX0_usedAtLevel_27 : decode cX0_usedAtLevel 27 = .ok (.getfield 25, 3) := by decide +kernel
theorem dX0_usedAtLevel_30 : decode cX0_usedAtLevel 30 = .ok (.iload 4, 2) := by decide +kernel
theorem dX0_usedAtLevel_32 : decode cX0_usedAtLevel 32 = .ok (.iaload, 1) := by decide +kernel
theorem dX0_usedAtLevel_33 : decode cX0_usedAtLevel 33 = .ok (.iload_n 2, 1) := by decide +kernel
theorem dX0_usedAtLevel_34 : decode cX0_usedAtLevel 34 = .ok (.invokestatic 132, 3) := by decide +kernel
theorem dX0_usedAtLevel_37 : decode cX0_usedAtLevel 37 = .ok (.iadd, 1) := by decide +kernel
theorem dX0_usedAtLevel_38 : decode cX0_usedAtLevel 38 = .ok (.istore_n 3, 1) := by decide +kernel
theorem dX0_usedAtLevel_39 : decode cX0_usedAtLevel 39 = .ok (.iinc 4 1, 3) := by decide +kernel
theorem dX0_usedAtLevel_42 : decode cX0_usedAtLevel 42 = .ok (.goto (-37), 3) := by decide +kernel
theorem dX0_usedAtLevel_45 : decode cX0_usedAtLevel 45 = .ok (.iload_n 3, 1) := by decide +kernel
theorem dX0_usedAtLevel_46 : decode cX0_usedAtLevel 46 = .ok (.ireturn, 1) := by decide +kernel
end
section
theorem dX1_init_0 : decode cX1_init 0 = .ok (.aload_n 0, 1) := by decide +kernel
theorem dX1_init_1 : decode cX1_init 1 = .ok (.invokespecial 1, 3) := by decide +kernel
theorem dX1_init_4 : decode cX1_init 4 = .ok (.aload_n 0, 1) := by decide +kernel
theorem dX1_init_5 : decode cX1_init 5 = .ok (.bipush 8, 2) := by decide +kernel
theorem dX1_init_7 : decode cX1_init 7 = .ok (.newarray .int, 2) := by decide +kernel
theorem dX1_init_9 : decode cX1_init 9 = .ok (.putfield 7, 3) := by decide +kernel
theorem dX1_init_12 : decode cX1_init 12 = .ok (.aload_n 0, 1) := by decide +kernel
theorem dX1_init_13 : decode cX1_init 13 = .ok (.bipush 8, 2) := by decide +kernel
theorem dX1_init_15 : decode cX1_init 15 = .ok (.newarray .int, 2) := by decide +kernel
theorem dX1_init_17 : decode cX1_init 17 = .ok (.putfield 13, 3) := by decide +kernel
theorem dX1_init_20 : decode cX1_init 20 = .ok (.aload_n 0, 1) := by decide +kernel
theorem dX1_init_21 : decode cX1_init 21 = .ok (.bipush 8, 2) := by decide +kernel
theorem dX1_init_23 : decode cX1_init 23 = .ok (.newarray .boolean, 2) := by decide +kernel
theorem dX1_init_25 : decode cX1_init 25 = .ok (.putfield 16, 3) := by decide +kernel
theorem dX1_init_28 : decode cX1_init 28 = .ok (.aload_n 0, 1) := by decide +kernel
theorem dX1_init_29 : decode cX1_init 29 = .ok (.bipush 8, 2) := by decide +kernel
theorem dX1_init_31 : decode cX1_init 31 = .ok (.newarray .int, 2) := by decide +kernel
theorem dX1_init_33 : decode cX1_init 33 = .ok (.putfield 20, 3) := by decide +kernel
theorem dX1_init_36 : decode cX1_init 36 = .ok (.aload_n 0, 1) := by decide +kernel
theorem dX1_init_37 : decode cX1_init 37 = .ok (.bipush 8, 2) := by decide +kernel
theorem dX1_init_39 : decode cX1_init 39 = .ok (.newarray .int, 2) := by decide +kernel
theorem dX1_init_41 : decode cX1_init 41 = .ok (.putfield 23, 3) := by decide +kernel
theorem dX1_init_44 : decode cX1_init 44 = .ok (.aload_n 0, 1) := by decide +kernel
theorem dX1_init_45 : decode cX1_init 45 = .ok (.bipush 8, 2) := by decide +kernel
theorem dX1_init_47 : decode cX1_init 47 = .ok (.newarray .int, 2) := by decide +kernel
theorem dX1_init_49 : decode cX1_init 49 = .ok (.putfield 26, 3) := by decide +kernel
theorem dX1_init_52 : decode cX1_init 52 = .ok (.aload_n 0, 1) := by decide +kernel
theorem dX1_init_53 : decode cX1_init 53 = .ok (.iconst 3, 1) := by decide +kernel
theorem dX1_init_54 : decode cX1_init 54 = .ok (.newarray .int, 2) := by decide +kernel
theorem dX1_init_56 : decode cX1_init 56 = .ok (.putfield 29, 3) := by decide +kernel
theorem dX1_init_59 : decode cX1_init 59 = .ok (.aload_n 0, 1) := by decide +kernel
theorem dX1_init_60 : decode cX1_init 60 = .ok (.bipush 100, 2) := by decide +kernel
theorem dX1_init_62 : decode cX1_init 62 = .ok (.putfield 32, 3) := by decide +kernel
theorem dX1_init_65 : decode cX1_init 65 = .ok (.aload_n 0, 1) := by decide +kernel
theorem dX1_init_66 : decode cX1_init 66 = .ok (.bipush 8, 2) := by decide +kernel
theorem dX1_init_68 : decode cX1_init 68 = .ok (.newarray .int, 2) := by decide +kernel
theorem dX1_init_70 : decode cX1_init 70 = .ok (.putfield 36, 3) := by decide +kernel
theorem dX1_init_73 : decode cX1_init 73 = .ok (.aload_n 0, 1) := by decide +kernel
theorem dX1_init_74 : decode cX1_init 74 = .ok (.bipush 8, 2) := by decide +kernel
theorem dX1_init_76 : decode cX1_init 76 = .ok (.newarray .boolean, 2) := by decide +kernel
theorem dX1_init_78 : decode cX1_init 78 = .ok (.putfield 39, 3) := by decide +kernel
theorem dX1_init_81 : decode cX1_init 81 = .ok (.iconst 0, 1) := by decide +kernel
theorem dX1_init_82 : decode cX1_init 82 = .ok (.istore_n 1, 1) := by decide +kernel
theorem dX1_init_83 : decode cX1_init 83 = .ok (.iload_n 1, 1) := by decide +kernel
theorem dX1_init_84 : decode cX1_init 84 = .ok (.iconst 3, 1) := by decide +kernel
theorem dX1_init_85 : decode cX1_init 85 = .ok (.if_icmp .ge 17, 3) := by decide +kernel
theorem dX1_init_88 : decode cX1_init 88 = .ok (.aload_n 0, 1) := by decide +kernel
theorem dX1_init_89 : decode cX1_init 89 = .ok (.getfield 29, 3) := by decide +kernel
theorem dX1_init_92 : decode cX1_init 92 = .ok (.iload_n 1, 1) := by decide +kernel
theorem dX1_init_93 : decode cX1_init 93 = .ok (.bipush 32, 2) := by decide +kernel
theorem dX1_init_95 : decode cX1_init 95 = .ok (.iastore, 1) := by decide +kernel
theorem dX1_init_96 : decode cX1_init 96 = .ok (.iinc 1 1, 3) := by decide +kernel
theorem dX1_init_99 : decode cX1_init 99 = .ok (.goto (-16), 3) := by decide +kernel
theorem dX1_init_102 : decode cX1_init 102 = .ok (.return_, 1) := by decide +kernel
theorem dX1_thrown_0 : decode cX1_thrown 0 = .ok (.aload_n 0, 1) := by decide +kernel
theorem dX1_thrown_1 : decode cX1_thrown 1 = .ok (.getfield 42, 3) := by decide +kernel
theorem dX1_thrown_4 : decode cX1_thrown 4 = .ok (.ireturn, 1) := by decide +kernel
theorem dX1_isIn_0 : decode cX1_isIn 0 = .ok (.iload_n 0, 1) := by decide +kernel
theorem dX1_isIn_1 : decode cX1_isIn 1 = .ok (.iload_n 1, 1) := by decide +kernel
theorem dX1_isIn_2 : decode cX1_isIn 2 = .ok (.if_icmp .lt 12, 3) := by decide +kernel
theorem dX1_isIn_5 : decode cX1_isIn 5 = .ok (.iload_n 0, 1) := by decide +kernel
theorem dX1_isIn_6 : decode cX1_isIn 6 = .ok (.iload_n 2, 1) := by decide +kernel
theorem dX1_isIn_7 : decode cX1_isIn 7 = .ok (.if_icmp .gt 7, 3) := by decide +kernel
theorem dX1_isIn_10 : decode cX1_isIn 10 = .ok (.iconst 1, 1) := by decide +kernel
theorem dX1_isIn_11 : decode cX1_isIn 11 = .ok (.goto 4, 3) := by decide +kernel
theorem dX1_isIn_14 : decode cX1_isIn 14 = .ok (.iconst 0, 1) := by decide +kernel
theorem dX1_isIn_15 : decode cX1_isIn 15 = .ok (.ireturn, 1) := by decide +kernel
set_option maxRecDepth 20000 in
theorem ggX1_point_X1_isIn : GoodIn wsX1_point wsX1_isIn := goodIn_r _ [8] (by decide +kernel) (by decide +kernel)
set_option maxRecDepth 20000 in
theorem gX1_point_X1_isIn : GoodIn wsX1_point (va_wsS RX1 45 yX1_isIn wsX1_isIn) := goodIn_app (goodIn_of _ (by decide +kernel)) ggX1_point_X1_isIn
theorem dX1_point_0 : decode cX1_point 0 = .ok (.aload_n 0, 1) := by decide +kernel
theorem dX1_point_1 : decode cX1_point 1 = .ok (.iload_n 1, 1) := by decide +kernel
theorem dX1_point_2 : decode cX1_point 2 = .ok (.iconst 0, 1) := by decide +kernel
theorem dX1_point_3 : decode cX1_point 3 = .ok (.iconst 3, 1) := by decide +kernel
theorem dX1_point_4 : decode cX1_point 4 = .ok (.invokestatic 45, 3) := by decide +kernel
theorem dX1_point_7 : decode cX1_point 7 = .ok (.ifCond .eq 14, 3) := by decide +kernel
theorem dX1_point_10 : decode cX1_point 10 = .ok (.iload_n 2, 1) := by decide +kernel
theorem dX1_point_11 : decode cX1_point 11 = .ok (.bipush 6, 2) := by decide +kernel
theorem dX1_point_13 : decode cX1_point 13 = .ok (.bipush 32, 2) := by decide +kernel
theorem dX1_point_15 : decode cX1_point 15 = .ok (.invokestatic 45, 3) := by decide +kernel
theorem dX1_point_18 : decode cX1_point 18 = .ok (.ifCond .ne 7, 3) := by decide +kernel
theorem dX1_point_21 : decode cX1_point 21 = .ok (.iconst 1, 1) := by decide +kernel
theorem dX1_point_22 : decode cX1_point 22 = .ok (.goto 17, 3) := by decide +kernel
theorem dX1_point_25 : decode cX1_point 25 = .ok (.aload_n 0, 1) := by decide +kernel
theorem dX1_point_26 : decode cX1_point 26 = .ok (.getfield 49, 3) := by decide +kernel
theorem dX1_point_29 : decode cX1_point 29 = .ok (.bipush 8, 2) := by decide +kernel
theorem dX1_point_31 : decode cX1_point 31 = .ok (.if_icmp .ne 7, 3) := by decide +kernel
theorem dX1_point_34 : decode cX1_point 34 = .ok (.iconst 2, 1) := by decide +kernel
theorem dX1_point_35 : decode cX1_point 35 = .ok (.goto 4, 3) := by decide +kernel
theorem dX1_point_38 : decode cX1_point 38 = .ok (.iconst 0, 1) := by decide +kernel
theorem dX1_point_39 : decode cX1_point 39 = .ok (.putfield 42, 3) := by decide +kernel
theorem dX1_point_42 : decode cX1_point 42 = .ok (.aload_n 0, 1) := by decide +kernel
theorem dX1_point_43 : decode cX1_point 43 = .ok (.getfield 42, 3) := by decide +kernel
theorem dX1_point_46 : decode cX1_point 46 = .ok (.ifCond .le 5, 3) := by decide +kernel
theorem dX1_point_49 : decode cX1_point 49 = .ok (.iconst 0, 1) := by decide +kernel
theorem dX1_point_50 : decode cX1_point 50 = .ok (.ireturn, 1) := by decide +kernel
theorem dX1_point_51 : decode cX1_point 51 = .ok (.aload_n 0, 1) := by decide +kernel
theorem dX1_point_52 : decode cX1_point 52 = .ok (.getfield 7, 3) := by decide +kernel
theorem dX1_point_55 : decode cX1_point 55 = .ok (.aload_n 0, 1) := by decide +kernel
theorem dX1_point_56 : decode cX1_point 56 = .ok (.getfield 49, 3) := by decide +kernel
theorem dX1_point_59 : decode cX1_point 59 = .ok (.iload_n 1, 1) := by decide +kernel
theorem dX1_point_60 : decode cX1_point 60 = .ok (.iastore, 1) := by decide +kernel
theorem dX1_point_61 : decode cX1_point 61 = .ok (.aload_n 0, 1) := by decide +kernel
theorem dX1_point_62 : decode cX1_point 62 = .ok (.getfield 13, 3) := by decide +kernel
theorem dX1_point_65 : decode cX1_point 65 = .ok (.aload_n 0, 1) := by decide +kernel
theorem dX1_point_66 : decode cX1_point 66 = .ok (.getfield 49, 3) := by decide +kernel
theorem dX1_point_69 : decode cX1_point 69 = .ok (.iload_n 2, 1) := by decide +kernel
theorem dX1_point_70 : decode cX1_point 70 = .ok (.iastore, 1) := by decide +kernel
theorem dX1_point_71 : decode cX1_point 71 = .ok (.aload_n 0, 1) := by decide +kernel
theorem dX1_point_72 : decode cX1_point 72 = .ok (.dup, 1) := by decide +kernel
theorem dX1_point_73 : decode cX1_point 73 = .ok (.getfield 49, 3) := by decide +kernel
theorem dX1_point_76 : decode cX1_point 76 = .ok (.iconst 1, 1) := by decide +kernel
theorem dX1_point_77 : decode cX1_point 77 = .ok (.iadd, 1) := by decide +kernel
theorem dX1_point_78 : decode cX1_point 78 = .ok (.putfield 49, 3) := by decide +kernel
theorem dX1_point_81 : decode cX1_point 81 = .ok (.aload_n 0, 1) := by decide +kernel
theorem dX1_point_82 : decode cX1_point 82 = .ok (.getfield 49, 3) := by decide +kernel
theorem dX1_point_85 : decode cX1_point 85 = .ok (.iconst 1, 1) := by decide +kernel
theorem dX1_point_86 : decode cX1_point 86 = .ok (.isub, 1) := by decide +kernel
theorem dX1_point_87 : decode cX1_point 87 = .ok (.ireturn, 1) := by decide +kernel
set_option maxRecDepth 20000 in
theorem ggX1_fuse_X1_isIn : GoodIn wsX1_fuse wsX1_isIn := goodIn_r _ [6] (by decide +kernel) (by decide +kernel)
set_option maxRecDepth 20000 in
theorem gX1_fuse_X1_isIn : GoodIn wsX1_fuse (va_wsS RX1 45 yX1_isIn wsX1_isIn) := goodIn_app (goodIn_of _ (by decide +kernel)) ggX1_fuse_X1_isIn
theorem dX1_fuse_0 : decode cX1_fuse 0 = .ok (.aload_n 0, 1) := by decide +kernel
theorem dX1_fuse_1 : decode cX1_fuse 1 = .ok (.iload_n 1, 1) := by decide +kernel
theorem dX1_fuse_2 : decode cX1_fuse 2 = .ok (.iconst 0, 1) := by decide +kernel
theorem dX1_fuse_3 : decode cX1_fuse 3 = .ok (.iconst 2, 1) := by decide +kernel
theorem dX1_fuse_4 : decode cX1_fuse 4 = .ok (.invokestatic 45, 3) := by decide +kernel
theorem dX1_fuse_7 : decode cX1_fuse 7 = .ok (.ifCond .eq 17, 3) := by decide +kernel
theorem dX1_fuse_10 : decode cX1_fuse 10 = .ok (.iload_n 2, 1) := by decide +kernel
theorem dX1_fuse_11 : decode cX1_fuse 11 = .ok (.iconst 0, 1) := by decide +kernel
theorem dX1_fuse_12 : decode cX1_fuse 12 = .ok (.bipush 100, 2) := by decide +kernel
theorem dX1_fuse_14 : decode cX1_fuse 14 = .ok (.invokestatic 45, 3) := by decide +kernel
theorem dX1_fuse_17 : decode cX1_fuse 17 = .ok (.ifCond .eq 7, 3) := by decide +kernel
theorem dX1_fuse_20 : decode cX1_fuse 20 = .ok (.iconst 0, 1) := by decide +kernel
theorem dX1_fuse_21 : decode cX1_fuse 21 = .ok (.goto 4, 3) := by decide +kernel
theorem dX1_fuse_24 : decode cX1_fuse 24 = .ok (.iconst 1, 1) := by decide +kernel
theorem dX1_fuse_25 : decode cX1_fuse 25 = .ok (.putfield 42, 3) := by decide +kernel
theorem dX1_fuse_28 : decode cX1_fuse 28 = .ok (.aload_n 0, 1) := by decide +kernel
theorem dX1_fuse_29 : decode cX1_fuse 29 = .ok (.getfield 42, 3) := by decide +kernel
theorem dX1_fuse_32 : decode cX1_fuse 32 = .ok (.ifCond .le 5, 3) := by decide +kernel
theorem dX1_fuse_35 : decode cX1_fuse 35 = .ok (.iconst 0, 1) := by decide +kernel
theorem dX1_fuse_36 : decode cX1_fuse 36 = .ok (.ireturn, 1) := by decide +kernel
theorem dX1_fuse_37 : decode cX1_fuse 37 = .ok (.aload_n 0, 1) := by decide +kernel
theorem dX1_fuse_38 : decode cX1_fuse 38 = .ok (.getfield 29, 3) := by decide +kernel
theorem dX1_fuse_41 : decode cX1_fuse 41 = .ok (.iload_n 1, 1) := by decide +kernel
theorem dX1_fuse_42 : decode cX1_fuse 42 = .ok (.iaload, 1) := by decide +kernel
theorem dX1_fuse_43 : decode cX1_fuse 43 = .ok (.istore_n 3, 1) := by decide +kernel
theorem dX1_fuse_44 : decode cX1_fuse 44 = .ok (.aload_n 0, 1) := by decide +kernel
theorem dX1_fuse_45 : decode cX1_fuse 45 = .ok (.getfield 29, 3) := by decide +kernel
theorem dX1_fuse_48 : decode cX1_fuse 48 = .ok (.iload_n 1, 1) := by decide +kernel
theorem dX1_fuse_49 : decode cX1_fuse 49 = .ok (.iload_n 2, 1) := by decide +kernel
theorem dX1_fuse_50 : decode cX1_fuse 50 = .ok (.iastore, 1) := by decide +kernel
theorem dX1_fuse_51 : decode cX1_fuse 51 = .ok (.iload_n 3, 1) := by decide +kernel
theorem dX1_fuse_52 : decode cX1_fuse 52 = .ok (.ireturn, 1) := by decide +kernel
set_option maxRecDepth 20000 in
theorem ggX1_balance_X1_isIn : GoodIn wsX1_balance wsX1_isIn := goodIn_r _ [6] (by decide +kernel) (by decide +kernel)
set_option maxRecDepth 20000 in
theorem gX1_balance_X1_isIn : GoodIn wsX1_balance (va_wsS RX1 45 yX1_isIn wsX1_isIn) := goodIn_app (goodIn_of _ (by decide +kernel)) ggX1_balance_X1_isIn
theorem dX1_balance_0 : decode cX1_balance 0 = .ok (.aload_n 0, 1) := by decide +kernel
theorem dX1_balance_1 : decode cX1_balance 1 = .ok (.iload_n 1, 1) := by decide +kernel
theorem dX1_balance_2 : decode cX1_balance 2 = .ok (.iconst 0, 1) := by decide +kernel
theorem dX1_balance_3 : decode cX1_balance 3 = .ok (.bipush 100, 2) := by decide +kernel
theorem dX1_balance_5 : decode cX1_balance 5 = .ok (.invokestatic 45, 3) := by decide +kernel
theorem dX1_balance_8 : decode cX1_balance 8 = .ok (.ifCond .eq 7, 3) := by decide +kernel
theorem dX1_balance_11 : decode cX1_balance 11 = .ok (.iconst 0, 1) := by decide +kernel
theorem dX1_balance_12 : decode cX1_balance 12 = .ok (.goto 4, 3) := by decide +kernel
theorem dX1_balance_15 : decode cX1_balance 15 = .ok (.iconst 1, 1) := by decide +kernel
theorem dX1_balance_16 : decode cX1_balance 16 = .ok (.putfield 42, 3) := by decide +kernel
theorem dX1_balance_19 : decode cX1_balance 19 = .ok (.aload_n 0, 1) := by decide +kernel
theorem dX1_balance_20 : decode cX1_balance 20 = .ok (.getfield 42, 3) := by decide +kernel
theorem dX1_balance_23 : decode cX1_balance 23 = .ok (.ifCond .le 5, 3) := by decide +kernel
theorem dX1_balance_26 : decode cX1_balance 26 = .ok (.iconst 0, 1) := by decide +kernel
theorem dX1_balance_27 : decode cX1_balance 27 = .ok (.ireturn, 1) := by decide +kernel
theorem dX1_balance_28 : decode cX1_balance 28 = .ok (.aload_n 0, 1) := by decide +kernel
theorem dX1_balance_29 : decode cX1_balance 29 = .ok (.getfield 32, 3) := by decide +kernel
theorem dX1_balance_32 : decode cX1_balance 32 = .ok (.istore_n 2, 1) := by decide +kernel
theorem dX1_balance_33 : decode cX1_balance 33 = .ok (.aload_n 0, 1) := by decide +kernel
theorem dX1_balance_34 : decode cX1_balance 34 = .ok (.iload_n 1, 1) := by decide +kernel
theorem dX1_balance_35 : decode cX1_balance 35 = .ok (.putfield 32, 3) := by decide +kernel
theorem dX1_balance_38 : decode cX1_balance 38 = .ok (.iload_n 2, 1) := by decide +kernel
theorem dX1_balance_39 : decode cX1_balance 39 = .ok (.ireturn, 1) := by decide +kernel
set_option maxRecDepth 20000 in
theorem ggX1_rule_X1_isIn : GoodIn wsX1_rule wsX1_isIn := goodIn_r _ [6] (by decide +kernel) (by decide +kernel)
set_option maxRecDepth 20000 in
theorem gX1_rule_X1_isIn : GoodIn wsX1_rule (va_wsS RX1 45 yX1_isIn wsX1_isIn) := goodIn_app (goodIn_of _ (by decide +kernel)) ggX1_rule_X1_isIn
theorem dX1_rule_0 : decode cX1_rule 0 = .ok (.aload_n 0, 1) := by decide +kernel
theorem dX1_rule_1 : decode cX1_rule 1 = .ok (.iload_n 1, 1) := by decide +kernel
theorem dX1_rule_2 : decode cX1_rule 2 = .ok (.iconst 0, 1) := by decide +kernel
theorem dX1_rule_3 : decode cX1_rule 3 = .ok (.iconst 1, 1) := by decide +kernel
theorem dX1_rule_4 : decode cX1_rule 4 = .ok (.invokestatic 45, 3) := by decide +kernel
theorem dX1_rule_7 : decode cX1_rule 7 = .ok (.ifCond .eq 7, 3) := by decide +kernel
theorem dX1_rule_10 : decode cX1_rule 10 = .ok (.iconst 0, 1) := by decide +kernel
theorem dX1_rule_11 : decode cX1_rule 11 = .ok (.goto 4, 3) := by decide +kernel
theorem dX1_rule_14 : decode cX1_rule 14 = .ok (.iconst 1, 1) := by decide +kernel
theorem dX1_rule_15 : decode cX1_rule 15 = .ok (.putfield 42, 3) := by decide +kernel
theorem dX1_rule_18 : decode cX1_rule 18 = .ok (.aload_n 0, 1) := by decide +kernel
theorem dX1_rule_19 : decode cX1_rule 19 = .ok (.getfield 42, 3) := by decide +kernel
theorem dX1_rule_22 : decode cX1_rule 22 = .ok (.ifCond .le 5, 3) := by decide +kernel
theorem dX1_rule_25 : decode cX1_rule 25 = .ok (.iconst 0, 1) := by decide +kernel
theorem dX1_rule_26 : decode cX1_rule 26 = .ok (.ireturn, 1) := by decide +kernel
theorem dX1_rule_27 : decode cX1_rule 27 = .ok (.aload_n 0, 1) := by decide +kernel
theorem dX1_rule_28 : decode cX1_rule 28 = .ok (.getfield 52, 3) := by decide +kernel
theorem dX1_rule_31 : decode cX1_rule 31 = .ok (.istore_n 2, 1) := by decide +kernel
theorem dX1_rule_32 : decode cX1_rule 32 = .ok (.aload_n 0, 1) := by decide +kernel
theorem dX1_rule_33 : decode cX1_rule 33 = .ok (.iload_n 1, 1) := by decide +kernel
theorem dX1_rule_34 : decode cX1_rule 34 = .ok (.putfield 52, 3) := by decide +kernel
theorem dX1_rule_37 : decode cX1_rule 37 = .ok (.iload_n 2, 1) := by decide +kernel
theorem dX1_rule_38 : decode cX1_rule 38 = .ok (.ireturn, 1) := by decide +kernel
theorem dX1_stepsLeft_0 : decode cX1_stepsLeft 0 = .ok (.aload_n 0, 1) := by decide +kernel
theorem dX1_stepsLeft_1 : decode cX1_stepsLeft 1 = .ok (.getfield 26, 3) := by decide +kernel
theorem dX1_stepsLeft_4 : decode cX1_stepsLeft 4 = .ok (.iload_n 1, 1) := by decide +kernel
theorem dX1_stepsLeft_5 : decode cX1_stepsLeft 5 = .ok (.iaload, 1) := by decide +kernel
theorem dX1_stepsLeft_6 : decode cX1_stepsLeft 6 = .ok (.aload_n 0, 1) := by decide +kernel
theorem dX1_stepsLeft_7 : decode cX1_stepsLeft 7 = .ok (.getfield 55, 3) := by decide +kernel
theorem dX1_stepsLeft_10 : decode cX1_stepsLeft 10 = .ok (.if_icmp .le 17, 3) := by decide +kernel
theorem dX1_stepsLeft_13 : decode cX1_stepsLeft 13 = .ok (.aload_n 0, 1) := by decide +kernel
theorem dX1_stepsLeft_14 : decode cX1_stepsLeft 14 = .ok (.getfield 26, 3) := by decide +kernel
theorem dX1_stepsLeft_17 : decode cX1_stepsLeft 17 = .ok (.iload_n 1, 1) := by decide +kernel
theorem dX1_stepsLeft_18 : decode cX1_stepsLeft 18 = .ok (.iaload, 1) := by decide +kernel
theorem dX1_stepsLeft_19 : decode cX1_stepsLeft 19 = .ok (.aload_n 0, 1) := by decide +kernel
theorem dX1_stepsLeft_20 : decode cX1_stepsLeft 20 = .ok (.getfield 55, 3) := by decide +kernel
theorem dX1_stepsLeft_23 : decode cX1_stepsLeft 23 = .ok (.isub, 1) := by decide +kernel
theorem dX1_stepsLeft_24 : decode cX1_stepsLeft 24 = .ok (.goto 4, 3) := by decide +kernel
theorem dX1_stepsLeft_27 : decode cX1_stepsLeft 27 = .ok (.iconst 0, 1) := by decide +kernel
theorem dX1_stepsLeft_28 : decode cX1_stepsLeft 28 = .ok (.ireturn, 1) := by decide +kernel
theorem dX1_times_0 : decode cX1_times 0 = .ok (.aload_n 0, 1) := by decide +kernel
theorem dX1_times_1 : decode cX1_times 1 = .ok (.getfield 7, 3) := by decide +kernel
theorem dX1_times_4 : decode cX1_times 4 = .ok (.iload_n 1, 1) := by decide +kernel
theorem dX1_times_5 : decode cX1_times 5 = .ok (.iaload, 1) := by decide +kernel
theorem dX1_times_6 : decode cX1_times 6 = .ok (.iconst 3, 1) := by decide +kernel
theorem dX1_times_7 : decode cX1_times 7 = .ok (.if_icmp .ne 7, 3) := by decide +kernel
theorem dX1_times_10 : decode cX1_times 10 = .ok (.iconst 3, 1) := by decide +kernel
theorem dX1_times_11 : decode cX1_times 11 = .ok (.goto 4, 3) := by decide +kernel
theorem dX1_times_14 : decode cX1_times 14 = .ok (.iconst 1, 1) := by decide +kernel
theorem dX1_times_15 : decode cX1_times 15 = .ok (.ireturn, 1) := by decide +kernel
theorem dX1_up_0 : decode cX1_up 0 = .ok (.iload_n 0, 1) := by decide +kernel
theorem dX1_up_1 : decode cX1_up 1 = .ok (.iload_n 1, 1) := by decide +kernel
theorem dX1_up_2 : decode cX1_up 2 = .ok (.iadd, 1) := by decide +kernel
theorem dX1_up_3 : decode cX1_up 3 = .ok (.iconst 1, 1) := by decide +kernel
theorem dX1_up_4 : decode cX1_up 4 = .ok (.isub, 1) := by decide +kernel
theorem dX1_up_5 : decode cX1_up 5 = .ok (.iload_n 1, 1) := by decide +kernel
theorem dX1_up_6 : decode cX1_up 6 = .ok (.idiv, 1) := by decide +kernel
theorem dX1_up_7 : decode cX1_up 7 = .ok (.ireturn, 1) := by decide +kernel
theorem dX1_most_0 : decode cX1_most 0 = .ok (.aload_n 0, 1) := by decide +kernel
theorem dX1_most_1 : decode cX1_most 1 = .ok (.getfield 13, 3) := by decide +kernel
theorem dX1_most_4 : decode cX1_most 4 = .ok (.iload_n 1, 1) := by decide +kernel
theorem dX1_most_5 : decode cX1_most 5 = .ok (.iaload, 1) := by decide +kernel
theorem dX1_most_6 : decode cX1_most 6 = .ok (.aload_n 0, 1) := by decide +kernel
theorem dX1_most_7 : decode cX1_most 7 = .ok (.getfield 23, 3) := by decide +kernel
theorem dX1_most_10 : decode cX1_most 10 = .ok (.iload_n 1, 1) := by decide +kernel
theorem dX1_most_11 : decode cX1_most 11 = .ok (.iaload, 1) := by decide +kernel
theorem dX1_most_12 : decode cX1_most 12 = .ok (.if_icmp .ge 12, 3) := by decide +kernel
theorem dX1_most_15 : decode cX1_most 15 = .ok (.aload_n 0, 1) := by decide +kernel
theorem dX1_most_16 : decode cX1_most 16 = .ok (.getfield 13, 3) := by decide +kernel
theorem dX1_most_19 : decode cX1_most 19 = .ok (.iload_n 1, 1) := by decide +kernel
theorem dX1_most_20 : decode cX1_most 20 = .ok (.iaload, 1) := by decide +kernel
theorem dX1_most_21 : decode cX1_most 21 = .ok (.goto 9, 3) := by decide +kernel
theorem dX1_most_24 : decode cX1_most 24 = .ok (.aload_n 0, 1) := by decide +kernel
theorem dX1_most_25 : decode cX1_most 25 = .ok (.getfield 23, 3) := by decide +kernel
theorem dX1_most_28 : decode cX1_most 28 = .ok (.iload_n 1, 1) := by decide +kernel
theorem dX1_most_29 : decode cX1_most 29 = .ok (.iaload, 1) := by decide +kernel
theorem dX1_most_30 : decode cX1_most 30 = .ok (.ireturn, 1) := by decide +kernel
set_option maxRecDepth 20000 in
theorem ggX1_lax_X1_stepsLeft : GoodIn wsX1_lax wsX1_stepsLeft := goodIn_r _ [6, 7, 8, 23, 24, 25, 26, 27, 28, 29, 30, 31, 32, 33, 34, 35, 36, 37, 38] (by decide +kernel) (by decide +kernel)
set_option maxRecDepth 20000 in
theorem gX1_lax_X1_stepsLeft : GoodIn wsX1_lax (wsV RX1 58 RX1 yX1_stepsLeft wsX1_stepsLeft) := goodIn_app (goodIn_of _ (by decide +kernel)) ggX1_lax_X1_stepsLeft
set_option maxRecDepth 20000 in
theorem ggX1_lax_X1_most : GoodIn wsX1_lax wsX1_most := goodIn_r _ [12, 13, 14, 23, 24, 25, 26, 27, 28, 29, 30, 31, 32, 33, 34, 35, 36, 37, 38] (by decide +kernel) (by decide +kernel)
set_option maxRecDepth 20000 in
theorem gX1_lax_X1_most : GoodIn wsX1_lax (wsV RX1 62 RX1 yX1_most wsX1_most) := goodIn_app (goodIn_of _ (by decide +kernel)) ggX1_lax_X1_most
set_option maxRecDepth 20000 in
theorem ggX1_lax_X1_times : GoodIn wsX1_lax wsX1_times := goodIn_r _ [18, 19, 23, 24, 25, 26, 27, 28, 29, 30, 31, 32, 33, 34, 35, 36, 37, 38] (by decide +kernel) (by decide +kernel)
set_option maxRecDepth 20000 in
theorem gX1_lax_X1_times : GoodIn wsX1_lax (wsV RX1 65 RX1 yX1_times wsX1_times) := goodIn_app (goodIn_of _ (by decide +kernel)) ggX1_lax_X1_times
set_option maxRecDepth 20000 in
theorem ggX1_lax_X1_up : GoodIn wsX1_lax wsX1_up := goodIn_r _ [22] (by decide +kernel) (by decide +kernel)
set_option maxRecDepth 20000 in
theorem gX1_lax_X1_up : GoodIn wsX1_lax (va_wsS RX1 68 yX1_up wsX1_up) := goodIn_app (goodIn_of _ (by decide +kernel)) ggX1_lax_X1_up
theorem dX1_lax_0 : decode cX1_lax 0 = .ok (.aload_n 0, 1) := by decide +kernel
theorem dX1_lax_1 : decode cX1_lax 1 = .ok (.iload_n 1, 1) := by decide +kernel
theorem dX1_lax_2 : decode cX1_lax 2 = .ok (.invokevirtual 58, 3) := by decide +kernel
theorem dX1_lax_5 : decode cX1_lax 5 = .ok (.aload_n 0, 1) := by decide +kernel
theorem dX1_lax_6 : decode cX1_lax 6 = .ok (.getfield 20, 3) := by decide +kernel
theorem dX1_lax_9 : decode cX1_lax 9 = .ok (.iload_n 1, 1) := by decide +kernel
theorem dX1_lax_10 : decode cX1_lax 10 = .ok (.iaload, 1) := by decide +kernel
theorem dX1_lax_11 : decode cX1_lax 11 = .ok (.aload_n 0, 1) := by decide +kernel
theorem dX1_lax_12 : decode cX1_lax 12 = .ok (.iload_n 1, 1) := by decide +kernel
theorem dX1_lax_13 : decode cX1_lax 13 = .ok (.invokevirtual 62, 3) := by decide +kernel
theorem dX1_lax_16 : decode cX1_lax 16 = .ok (.aload_n 0, 1) := by decide +kernel
theorem dX1_lax_17 : decode cX1_lax 17 = .ok (.iload_n 1, 1) := by decide +kernel
theorem dX1_lax_18 : decode cX1_lax 18 = .ok (.invokevirtual 65, 3) := by decide +kernel
theorem dX1_lax_21 : decode cX1_lax 21 = .ok (.imul, 1) := by decide +kernel
theorem dX1_lax_22 : decode cX1_lax 22 = .ok (.invokestatic 68, 3) := by decide +kernel
theorem dX1_lax_25 : decode cX1_lax 25 = .ok (.isub, 1) := by decide +kernel
theorem dX1_lax_26 : decode cX1_lax 26 = .ok (.ireturn, 1) := by decide +kernel
set_option maxRecDepth 20000 in
theorem ggX1_reaches_X1_times : GoodIn wsX1_reaches wsX1_times := goodIn_r _ [7, 8, 24, 25, 26, 27, 28, 29, 30, 31, 32, 33, 34, 35, 36, 37, 38, 39] (by decide +kernel) (by decide +kernel)
set_option maxRecDepth 20000 in
theorem gX1_reaches_X1_times : GoodIn wsX1_reaches (wsV RX1 65 RX1 yX1_times wsX1_times) := goodIn_app (goodIn_of _ (by decide +kernel)) ggX1_reaches_X1_times
set_option maxRecDepth 20000 in
theorem ggX1_reaches_X1_up : GoodIn wsX1_reaches wsX1_up := goodIn_r _ [11] (by decide +kernel) (by decide +kernel)
set_option maxRecDepth 20000 in
theorem gX1_reaches_X1_up : GoodIn wsX1_reaches (va_wsS RX1 68 yX1_up wsX1_up) := goodIn_app (goodIn_of _ (by decide +kernel)) ggX1_reaches_X1_up
set_option maxRecDepth 20000 in
theorem ggX1_reaches_X1_most : GoodIn wsX1_reaches wsX1_most := goodIn_r _ [15, 16, 17, 24, 25, 26, 27, 28, 29, 30, 31, 32, 33, 34, 35, 36, 37, 38, 39] (by decide +kernel) (by decide +kernel)
set_option maxRecDepth 20000 in
theorem gX1_reaches_X1_most : GoodIn wsX1_reaches (wsV RX1 62 RX1 yX1_most wsX1_most) := goodIn_app (goodIn_of _ (by decide +kernel)) ggX1_reaches_X1_most
set_option maxRecDepth 20000 in
theorem ggX1_reaches_X1_stepsLeft : GoodIn wsX1_reaches wsX1_stepsLeft := goodIn_r _ [21, 22, 23, 24, 25, 26, 27, 28, 29, 30, 31, 32, 33, 34, 35, 36, 37, 38, 39] (by decide +kernel) (by decide +kernel)
set_option maxRecDepth 20000 in
theorem gX1_reaches_X1_stepsLeft : GoodIn wsX1_reaches (wsV RX1 58 RX1 yX1_stepsLeft wsX1_stepsLeft) := goodIn_app (goodIn_of _ (by decide +kernel)) ggX1_reaches_X1_stepsLeft
theorem dX1_reaches_0 : decode cX1_reaches 0 = .ok (.aload_n 0, 1) := by decide +kernel
theorem dX1_reaches_1 : decode cX1_reaches 1 = .ok (.getfield 20, 3) := by decide +kernel
theorem dX1_reaches_4 : decode cX1_reaches 4 = .ok (.iload_n 1, 1) := by decide +kernel
theorem dX1_reaches_5 : decode cX1_reaches 5 = .ok (.iaload, 1) := by decide +kernel
theorem dX1_reaches_6 : decode cX1_reaches 6 = .ok (.aload_n 0, 1) := by decide +kernel
theorem dX1_reaches_7 : decode cX1_reaches 7 = .ok (.iload_n 1, 1) := by decide +kernel
theorem dX1_reaches_8 : decode cX1_reaches 8 = .ok (.invokevirtual 65, 3) := by decide +kernel
theorem dX1_reaches_11 : decode cX1_reaches 11 = .ok (.invokestatic 68, 3) := by decide +kernel
theorem dX1_reaches_14 : decode cX1_reaches 14 = .ok (.istore_n 2, 1) := by decide +kernel
theorem dX1_reaches_15 : decode cX1_reaches 15 = .ok (.iload_n 2, 1) := by decide +kernel
theorem dX1_reaches_16 : decode cX1_reaches 16 = .ok (.aload_n 0, 1) := by decide +kernel
theorem dX1_reaches_17 : decode cX1_reaches 17 = .ok (.iload_n 1, 1) := by decide +kernel
theorem dX1_reaches_18 : decode cX1_reaches 18 = .ok (.invokevirtual 62, 3) := by decide +kernel
theorem dX1_reaches_21 : decode cX1_reaches 21 = .ok (.if_icmp .ge 7, 3) := by decide +kernel
theorem dX1_reaches_24 : decode cX1_reaches 24 = .ok (.iload_n 2, 1) := by decide +kernel
theorem dX1_reaches_25 : decode cX1_reaches 25 = .ok (.goto 8, 3) := by decide +kernel
theorem dX1_reaches_28 : decode cX1_reaches 28 = .ok (.aload_n 0, 1) := by decide +kernel
theorem dX1_reaches_29 : decode cX1_reaches 29 = .ok (.iload_n 1, 1) := by decide +kernel
theorem dX1_reaches_30 : decode cX1_reaches 30 = .ok (.invokevirtual 62, 3) := by decide +kernel
theorem dX1_reaches_33 : decode cX1_reaches 33 = .ok (.istore_n 3, 1) := by decide +kernel
theorem dX1_reaches_34 : decode cX1_reaches 34 = .ok (.aload_n 0, 1) := by decide +kernel
theorem dX1_reaches_35 : decode cX1_reaches 35 = .ok (.getfield 16, 3) := by decide +kernel
theorem dX1_reaches_38 : decode cX1_reaches 38 = .ok (.iload_n 1, 1) := by decide +kernel
theorem dX1_reaches_39 : decode cX1_reaches 39 = .ok (.baload, 1) := by decide +kernel
theorem dX1_reaches_40 : decode cX1_reaches 40 = .ok (.ifCond .eq 15, 3) := by decide +kernel
theorem dX1_reaches_43 : decode cX1_reaches 43 = .ok (.aload_n 0, 1) := by decide +kernel
theorem dX1_reaches_44 : decode cX1_reaches 44 = .ok (.iload_n 1, 1) := by decide +kernel
theorem dX1_reaches_45 : decode cX1_reaches 45 = .ok (.invokevirtual 58, 3) := by decide +kernel
theorem dX1_reaches_48 : decode cX1_reaches 48 = .ok (.ifCond .le 7, 3) := by decide +kernel
theorem dX1_reaches_51 : decode cX1_reaches 51 = .ok (.iload_n 3, 1) := by decide +kernel
theorem dX1_reaches_52 : decode cX1_reaches 52 = .ok (.goto 4, 3) := by decide +kernel
theorem dX1_reaches_55 : decode cX1_reaches 55 = .ok (.iconst 0, 1) := by decide +kernel
theorem dX1_reaches_56 : decode cX1_reaches 56 = .ok (.ireturn, 1) := by decide +kernel
set_option maxRecDepth 20000 in
theorem ggX1_isPoint_X1_isIn : GoodIn wsX1_isPoint wsX1_isIn := goodIn_r _ [6] (by decide +kernel) (by decide +kernel)
set_option maxRecDepth 20000 in
theorem gX1_isPoint_X1_isIn : GoodIn wsX1_isPoint (va_wsS RX1 45 yX1_isIn wsX1_isIn) := goodIn_app (goodIn_of _ (by decide +kernel)) ggX1_isPoint_X1_isIn
theorem dX1_isPoint_0 : decode cX1_isPoint 0 = .ok (.aload_n 0, 1) := by decide +kernel
theorem dX1_isPoint_1 : decode cX1_isPoint 1 = .ok (.iload_n 1, 1) := by decide +kernel
theorem dX1_isPoint_2 : decode cX1_isPoint 2 = .ok (.iconst 0, 1) := by decide +kernel
theorem dX1_isPoint_3 : decode cX1_isPoint 3 = .ok (.aload_n 0, 1) := by decide +kernel
theorem dX1_isPoint_4 : decode cX1_isPoint 4 = .ok (.getfield 49, 3) := by decide +kernel
theorem dX1_isPoint_7 : decode cX1_isPoint 7 = .ok (.iconst 1, 1) := by decide +kernel
theorem dX1_isPoint_8 : decode cX1_isPoint 8 = .ok (.isub, 1) := by decide +kernel
theorem dX1_isPoint_9 : decode cX1_isPoint 9 = .ok (.invokestatic 45, 3) := by decide +kernel
theorem dX1_isPoint_12 : decode cX1_isPoint 12 = .ok (.ifCond .eq 7, 3) := by decide +kernel
theorem dX1_isPoint_15 : decode cX1_isPoint 15 = .ok (.iconst 0, 1) := by decide +kernel
theorem dX1_isPoint_16 : decode cX1_isPoint 16 = .ok (.goto 4, 3) := by decide +kernel
theorem dX1_isPoint_19 : decode cX1_isPoint 19 = .ok (.iconst 1, 1) := by decide +kernel
theorem dX1_isPoint_20 : decode cX1_isPoint 20 = .ok (.putfield 42, 3) := by decide +kernel
theorem dX1_isPoint_23 : decode cX1_isPoint 23 = .ok (.aload_n 0, 1) := by decide +kernel
theorem dX1_isPoint_24 : decode cX1_isPoint 24 = .ok (.getfield 42, 3) := by decide +kernel
theorem dX1_isPoint_27 : decode cX1_isPoint 27 = .ok (.ifCond .ne 7, 3) := by decide +kernel
theorem dX1_isPoint_30 : decode cX1_isPoint 30 = .ok (.iconst 1, 1) := by decide +kernel
theorem dX1_isPoint_31 : decode cX1_isPoint 31 = .ok (.goto 4, 3) := by decide +kernel
theorem dX1_isPoint_34 : decode cX1_isPoint 34 = .ok (.iconst 0, 1) := by decide +kernel
theorem dX1_isPoint_35 : decode cX1_isPoint 35 = .ok (.ireturn, 1) := by decide +kernel
set_option maxRecDepth 20000 in
theorem ggX1_plugIn_X1_isPoint : GoodIn wsX1_plugIn wsX1_isPoint := goodIn_r _ [11, 12, 2, 13, 14, 10, 15, 37, 38, 39, 40, 41, 42, 43, 44, 45, 46, 47, 48, 49, 50, 51, 52] (by decide +kernel) (by decide +kernel)
set_option maxRecDepth 20000 in
theorem gX1_plugIn_X1_isPoint : GoodIn wsX1_plugIn (wsV RX1 72 RX1 yX1_isPoint wsX1_isPoint) := goodIn_app (goodIn_of _ (by decide +kernel)) ggX1_plugIn_X1_isPoint
set_option maxRecDepth 20000 in
theorem ggX1_plugIn_X1_isIn : GoodIn wsX1_plugIn wsX1_isIn := goodIn_r _ [15] (by decide +kernel) (by decide +kernel)
set_option maxRecDepth 20000 in
theorem gX1_plugIn_X1_isIn : GoodIn wsX1_plugIn (va_wsS RX1 45 yX1_isIn wsX1_isIn) := goodIn_app (goodIn_of _ (by decide +kernel)) ggX1_plugIn_X1_isIn
set_option maxRecDepth 20000 in
theorem ggX1_plugIn_X1_lax : GoodIn wsX1_plugIn wsX1_lax := goodIn_r _ [19, 3, 20, 21, 22, 10, 23, 5, 6, 24, 25, 26, 27, 28, 4, 29, 30, 31, 32, 33, 34, 35, 36, 37, 38, 39, 40, 41, 42, 43, 44, 45, 46, 47, 48, 49, 50, 51, 52] (by decide +kernel) (by decide +kernel)
set_option maxRecDepth 20000 in
theorem gX1_plugIn_X1_lax : GoodIn wsX1_plugIn (wsV RX1 76 RX1 yX1_lax wsX1_lax) := goodIn_app (goodIn_of _ (by decide +kernel)) ggX1_plugIn_X1_lax
theorem dX1_plugIn_0 : decode cX1_plugIn 0 = .ok (.aload_n 0, 1) := by decide +kernel
theorem dX1_plugIn_1 : decode cX1_plugIn 1 = .ok (.iload_n 1, 1) := by decide +kernel
theorem dX1_plugIn_2 : decode cX1_plugIn 2 = .ok (.invokevirtual 72, 3) := by decide +kernel
theorem dX1_plugIn_5 : decode cX1_plugIn 5 = .ok (.ifCond .ne 5, 3) := by decide +kernel
theorem dX1_plugIn_8 : decode cX1_plugIn 8 = .ok (.iconst 0, 1) := by decide +kernel
theorem dX1_plugIn_9 : decode cX1_plugIn 9 = .ok (.ireturn, 1) := by decide +kernel
theorem dX1_plugIn_10 : decode cX1_plugIn 10 = .ok (.aload_n 0, 1) := by decide +kernel
theorem dX1_plugIn_11 : decode cX1_plugIn 11 = .ok (.iload_n 2, 1) := by decide +kernel
theorem dX1_plugIn_12 : decode cX1_plugIn 12 = .ok (.iconst 1, 1) := by decide +kernel
theorem dX1_plugIn_13 : decode cX1_plugIn 13 = .ok (.sipush 5000, 3) := by decide +kernel
theorem dX1_plugIn_16 : decode cX1_plugIn 16 = .ok (.invokestatic 45, 3) := by decide +kernel
theorem dX1_plugIn_19 : decode cX1_plugIn 19 = .ok (.ifCond .eq 25, 3) := by decide +kernel
theorem dX1_plugIn_22 : decode cX1_plugIn 22 = .ok (.iload_n 3, 1) := by decide +kernel
theorem dX1_plugIn_23 : decode cX1_plugIn 23 = .ok (.iconst 1, 1) := by decide +kernel
theorem dX1_plugIn_24 : decode cX1_plugIn 24 = .ok (.bipush 32, 2) := by decide +kernel
theorem dX1_plugIn_26 : decode cX1_plugIn 26 = .ok (.invokestatic 45, 3) := by decide +kernel
theorem dX1_plugIn_29 : decode cX1_plugIn 29 = .ok (.ifCond .eq 15, 3) := by decide +kernel
theorem dX1_plugIn_32 : decode cX1_plugIn 32 = .ok (.iload 4, 2) := by decide +kernel
theorem dX1_plugIn_34 : decode cX1_plugIn 34 = .ok (.iconst 1, 1) := by decide +kernel
theorem dX1_plugIn_35 : decode cX1_plugIn 35 = .ok (.sipush 500, 3) := by decide +kernel
theorem dX1_plugIn_38 : decode cX1_plugIn 38 = .ok (.invokestatic 45, 3) := by decide +kernel
theorem dX1_plugIn_41 : decode cX1_plugIn 41 = .ok (.ifCond .ne 7, 3) := by decide +kernel
theorem dX1_plugIn_44 : decode cX1_plugIn 44 = .ok (.iconst 2, 1) := by decide +kernel
theorem dX1_plugIn_45 : decode cX1_plugIn 45 = .ok (.goto 17, 3) := by decide +kernel
theorem dX1_plugIn_48 : decode cX1_plugIn 48 = .ok (.aload_n 0, 1) := by decide +kernel
theorem dX1_plugIn_49 : decode cX1_plugIn 49 = .ok (.getfield 16, 3) := by decide +kernel
theorem dX1_plugIn_52 : decode cX1_plugIn 52 = .ok (.iload_n 1, 1) := by decide +kernel
theorem dX1_plugIn_53 : decode cX1_plugIn 53 = .ok (.baload, 1) := by decide +kernel
theorem dX1_plugIn_54 : decode cX1_plugIn 54 = .ok (.ifCond .eq 7, 3) := by decide +kernel
theorem dX1_plugIn_57 : decode cX1_plugIn 57 = .ok (.iconst 3, 1) := by decide +kernel
theorem dX1_plugIn_58 : decode cX1_plugIn 58 = .ok (.goto 4, 3) := by decide +kernel
theorem dX1_plugIn_61 : decode cX1_plugIn 61 = .ok (.iconst 0, 1) := by decide +kernel
theorem dX1_plugIn_62 : decode cX1_plugIn 62 = .ok (.putfield 42, 3) := by decide +kernel
theorem dX1_plugIn_65 : decode cX1_plugIn 65 = .ok (.aload_n 0, 1) := by decide +kernel
theorem dX1_plugIn_66 : decode cX1_plugIn 66 = .ok (.getfield 42, 3) := by decide +kernel
theorem dX1_plugIn_69 : decode cX1_plugIn 69 = .ok (.ifCond .le 5, 3) := by decide +kernel
theorem dX1_plugIn_72 : decode cX1_plugIn 72 = .ok (.iconst 0, 1) := by decide +kernel
theorem dX1_plugIn_73 : decode cX1_plugIn 73 = .ok (.ireturn, 1) := by decide +kernel
theorem dX1_plugIn_74 : decode cX1_plugIn 74 = .ok (.aload_n 0, 1) := by decide +kernel
theorem dX1_plugIn_75 : decode cX1_plugIn 75 = .ok (.getfield 16, 3) := by decide +kernel
theorem dX1_plugIn_78 : decode cX1_plugIn 78 = .ok (.iload_n 1, 1) := by decide +kernel
theorem dX1_plugIn_79 : decode cX1_plugIn 79 = .ok (.iconst 1, 1) := by decide +kernel
theorem dX1_plugIn_80 : decode cX1_plugIn 80 = .ok (.bastore, 1) := by decide +kernel
theorem dX1_plugIn_81 : decode cX1_plugIn 81 = .ok (.aload_n 0, 1) := by decide +kernel
theorem dX1_plugIn_82 : decode cX1_plugIn 82 = .ok (.getfield 20, 3) := by decide +kernel
theorem dX1_plugIn_85 : decode cX1_plugIn 85 = .ok (.iload_n 1, 1) := by decide +kernel
theorem dX1_plugIn_86 : decode cX1_plugIn 86 = .ok (.iload_n 2, 1) := by decide +kernel
theorem dX1_plugIn_87 : decode cX1_plugIn 87 = .ok (.iastore, 1) := by decide +kernel
theorem dX1_plugIn_88 : decode cX1_plugIn 88 = .ok (.aload_n 0, 1) := by decide +kernel
theorem dX1_plugIn_89 : decode cX1_plugIn 89 = .ok (.getfield 23, 3) := by decide +kernel
theorem dX1_plugIn_92 : decode cX1_plugIn 92 = .ok (.iload_n 1, 1) := by decide +kernel
theorem dX1_plugIn_93 : decode cX1_plugIn 93 = .ok (.iload_n 3, 1) := by decide +kernel
theorem dX1_plugIn_94 : decode cX1_plugIn 94 = .ok (.iastore, 1) := by decide +kernel
theorem dX1_plugIn_95 : decode cX1_plugIn 95 = .ok (.aload_n 0, 1) := by decide +kernel
theorem dX1_plugIn_96 : decode cX1_plugIn 96 = .ok (.getfield 26, 3) := by decide +kernel
theorem dX1_plugIn_99 : decode cX1_plugIn 99 = .ok (.iload_n 1, 1) := by decide +kernel
theorem dX1_plugIn_100 : decode cX1_plugIn 100 = .ok (.aload_n 0, 1) := by decide +kernel
theorem dX1_plugIn_101 : decode cX1_plugIn 101 = .ok (.getfield 55, 3) := by decide +kernel
theorem dX1_plugIn_104 : decode cX1_plugIn 104 = .ok (.iload 4, 2) := by decide +kernel
theorem dX1_plugIn_106 : decode cX1_plugIn 106 = .ok (.iadd, 1) := by decide +kernel
theorem dX1_plugIn_107 : decode cX1_plugIn 107 = .ok (.iastore, 1) := by decide +kernel
theorem dX1_plugIn_108 : decode cX1_plugIn 108 = .ok (.aload_n 0, 1) := by decide +kernel
theorem dX1_plugIn_109 : decode cX1_plugIn 109 = .ok (.iload_n 1, 1) := by decide +kernel
theorem dX1_plugIn_110 : decode cX1_plugIn 110 = .ok (.invokevirtual 76, 3) := by decide +kernel
theorem dX1_plugIn_113 : decode cX1_plugIn 113 = .ok (.ireturn, 1) := by decide +kernel
set_option maxRecDepth 20000 in
theorem ggX1_takeOut_X1_isPoint : GoodIn wsX1_takeOut wsX1_isPoint := goodIn_r _ [9, 10, 2, 11, 12, 8, 13, 14, 15, 16, 17, 18, 19, 20, 21, 22, 23, 24, 25, 26, 27, 28, 29] (by decide +kernel) (by decide +kernel)
set_option maxRecDepth 20000 in
theorem gX1_takeOut_X1_isPoint : GoodIn wsX1_takeOut (wsV RX1 72 RX1 yX1_isPoint wsX1_isPoint) := goodIn_app (goodIn_of _ (by decide +kernel)) ggX1_takeOut_X1_isPoint
theorem dX1_takeOut_0 : decode cX1_takeOut 0 = .ok (.aload_n 0, 1) := by decide +kernel
theorem dX1_takeOut_1 : decode cX1_takeOut 1 = .ok (.iload_n 1, 1) := by decide +kernel
theorem dX1_takeOut_2 : decode cX1_takeOut 2 = .ok (.invokevirtual 72, 3) := by decide +kernel
theorem dX1_takeOut_5 : decode cX1_takeOut 5 = .ok (.ifCond .ne 5, 3) := by decide +kernel
theorem dX1_takeOut_8 : decode cX1_takeOut 8 = .ok (.iconst 0, 1) := by decide +kernel
theorem dX1_takeOut_9 : decode cX1_takeOut 9 = .ok (.ireturn, 1) := by decide +kernel
theorem dX1_takeOut_10 : decode cX1_takeOut 10 = .ok (.aload_n 0, 1) := by decide +kernel
theorem dX1_takeOut_11 : decode cX1_takeOut 11 = .ok (.aload_n 0, 1) := by decide +kernel
theorem dX1_takeOut_12 : decode cX1_takeOut 12 = .ok (.getfield 16, 3) := by decide +kernel
theorem dX1_takeOut_15 : decode cX1_takeOut 15 = .ok (.iload_n 1, 1) := by decide +kernel
theorem dX1_takeOut_16 : decode cX1_takeOut 16 = .ok (.baload, 1) := by decide +kernel
theorem dX1_takeOut_17 : decode cX1_takeOut 17 = .ok (.ifCond .eq 7, 3) := by decide +kernel
theorem dX1_takeOut_20 : decode cX1_takeOut 20 = .ok (.iconst 0, 1) := by decide +kernel
theorem dX1_takeOut_21 : decode cX1_takeOut 21 = .ok (.goto 4, 3) := by decide +kernel
theorem dX1_takeOut_24 : decode cX1_takeOut 24 = .ok (.iconst 2, 1) := by decide +kernel
theorem dX1_takeOut_25 : decode cX1_takeOut 25 = .ok (.putfield 42, 3) := by decide +kernel
theorem dX1_takeOut_28 : decode cX1_takeOut 28 = .ok (.aload_n 0, 1) := by decide +kernel
theorem dX1_takeOut_29 : decode cX1_takeOut 29 = .ok (.getfield 42, 3) := by decide +kernel
theorem dX1_takeOut_32 : decode cX1_takeOut 32 = .ok (.ifCond .le 5, 3) := by decide +kernel
theorem dX1_takeOut_35 : decode cX1_takeOut 35 = .ok (.iconst 0, 1) := by decide +kernel
theorem dX1_takeOut_36 : decode cX1_takeOut 36 = .ok (.ireturn, 1) := by decide +kernel
theorem dX1_takeOut_37 : decode cX1_takeOut 37 = .ok (.aload_n 0, 1) := by decide +kernel
theorem dX1_takeOut_38 : decode cX1_takeOut 38 = .ok (.getfield 16, 3) := by decide +kernel
theorem dX1_takeOut_41 : decode cX1_takeOut 41 = .ok (.iload_n 1, 1) := by decide +kernel
theorem dX1_takeOut_42 : decode cX1_takeOut 42 = .ok (.iconst 0, 1) := by decide +kernel
theorem dX1_takeOut_43 : decode cX1_takeOut 43 = .ok (.bastore, 1) := by decide +kernel
theorem dX1_takeOut_44 : decode cX1_takeOut 44 = .ok (.aload_n 0, 1) := by decide +kernel
theorem dX1_takeOut_45 : decode cX1_takeOut 45 = .ok (.dup, 1) := by decide +kernel
theorem dX1_takeOut_46 : decode cX1_takeOut 46 = .ok (.getfield 79, 3) := by decide +kernel
theorem dX1_takeOut_49 : decode cX1_takeOut 49 = .ok (.aload_n 0, 1) := by decide +kernel
theorem dX1_takeOut_50 : decode cX1_takeOut 50 = .ok (.getfield 20, 3) := by decide +kernel
theorem dX1_takeOut_53 : decode cX1_takeOut 53 = .ok (.iload_n 1, 1) := by decide +kernel
theorem dX1_takeOut_54 : decode cX1_takeOut 54 = .ok (.iaload, 1) := by decide +kernel
theorem dX1_takeOut_55 : decode cX1_takeOut 55 = .ok (.ifCond .ne 7, 3) := by decide +kernel
theorem dX1_takeOut_58 : decode cX1_takeOut 58 = .ok (.iconst 1, 1) := by decide +kernel
theorem dX1_takeOut_59 : decode cX1_takeOut 59 = .ok (.goto 4, 3) := by decide +kernel
theorem dX1_takeOut_62 : decode cX1_takeOut 62 = .ok (.iconst 0, 1) := by decide +kernel
theorem dX1_takeOut_63 : decode cX1_takeOut 63 = .ok (.iadd, 1) := by decide +kernel
theorem dX1_takeOut_64 : decode cX1_takeOut 64 = .ok (.putfield 79, 3) := by decide +kernel
theorem dX1_takeOut_67 : decode cX1_takeOut 67 = .ok (.aload_n 0, 1) := by decide +kernel
theorem dX1_takeOut_68 : decode cX1_takeOut 68 = .ok (.getfield 20, 3) := by decide +kernel
theorem dX1_takeOut_71 : decode cX1_takeOut 71 = .ok (.iload_n 1, 1) := by decide +kernel
theorem dX1_takeOut_72 : decode cX1_takeOut 72 = .ok (.iaload, 1) := by decide +kernel
theorem dX1_takeOut_73 : decode cX1_takeOut 73 = .ok (.ireturn, 1) := by decide +kernel
set_option maxRecDepth 20000 in
theorem ggX1_appetite_X1_isPoint : GoodIn wsX1_appetite wsX1_isPoint := goodIn_r _ [8, 9, 2, 10, 11, 7, 12, 13, 14, 15, 16, 17, 18, 19, 20, 21, 22, 23, 24, 25, 26, 27, 28] (by decide +kernel) (by decide +kernel)
set_option maxRecDepth 20000 in
theorem gX1_appetite_X1_isPoint : GoodIn wsX1_appetite (wsV RX1 72 RX1 yX1_isPoint wsX1_isPoint) := goodIn_app (goodIn_of _ (by decide +kernel)) ggX1_appetite_X1_isPoint
set_option maxRecDepth 20000 in
theorem ggX1_appetite_X1_isIn : GoodIn wsX1_appetite wsX1_isIn := goodIn_r _ [12] (by decide +kernel) (by decide +kernel)
set_option maxRecDepth 20000 in
theorem gX1_appetite_X1_isIn : GoodIn wsX1_appetite (va_wsS RX1 45 yX1_isIn wsX1_isIn) := goodIn_app (goodIn_of _ (by decide +kernel)) ggX1_appetite_X1_isIn
theorem dX1_appetite_0 : decode cX1_appetite 0 = .ok (.aload_n 0, 1) := by decide +kernel
theorem dX1_appetite_1 : decode cX1_appetite 1 = .ok (.iload_n 1, 1) := by decide +kernel
theorem dX1_appetite_2 : decode cX1_appetite 2 = .ok (.invokevirtual 72, 3) := by decide +kernel
theorem dX1_appetite_5 : decode cX1_appetite 5 = .ok (.ifCond .ne 5, 3) := by decide +kernel
theorem dX1_appetite_8 : decode cX1_appetite 8 = .ok (.iconst 0, 1) := by decide +kernel
theorem dX1_appetite_9 : decode cX1_appetite 9 = .ok (.ireturn, 1) := by decide +kernel
theorem dX1_appetite_10 : decode cX1_appetite 10 = .ok (.aload_n 0, 1) := by decide +kernel
theorem dX1_appetite_11 : decode cX1_appetite 11 = .ok (.iload_n 2, 1) := by decide +kernel
theorem dX1_appetite_12 : decode cX1_appetite 12 = .ok (.iconst 1, 1) := by decide +kernel
theorem dX1_appetite_13 : decode cX1_appetite 13 = .ok (.bipush 32, 2) := by decide +kernel
theorem dX1_appetite_15 : decode cX1_appetite 15 = .ok (.invokestatic 45, 3) := by decide +kernel
theorem dX1_appetite_18 : decode cX1_appetite 18 = .ok (.ifCond .ne 7, 3) := by decide +kernel
theorem dX1_appetite_21 : decode cX1_appetite 21 = .ok (.iconst 2, 1) := by decide +kernel
theorem dX1_appetite_22 : decode cX1_appetite 22 = .ok (.goto 17, 3) := by decide +kernel
theorem dX1_appetite_25 : decode cX1_appetite 25 = .ok (.aload_n 0, 1) := by decide +kernel
theorem dX1_appetite_26 : decode cX1_appetite 26 = .ok (.getfield 16, 3) := by decide +kernel
theorem dX1_appetite_29 : decode cX1_appetite 29 = .ok (.iload_n 1, 1) := by decide +kernel
theorem dX1_appetite_30 : decode cX1_appetite 30 = .ok (.baload, 1) := by decide +kernel
theorem dX1_appetite_31 : decode cX1_appetite 31 = .ok (.ifCond .eq 7, 3) := by decide +kernel
theorem dX1_appetite_34 : decode cX1_appetite 34 = .ok (.iconst 0, 1) := by decide +kernel
theorem dX1_appetite_35 : decode cX1_appetite 35 = .ok (.goto 4, 3) := by decide +kernel
theorem dX1_appetite_38 : decode cX1_appetite 38 = .ok (.iconst 3, 1) := by decide +kernel
theorem dX1_appetite_39 : decode cX1_appetite 39 = .ok (.putfield 42, 3) := by decide +kernel
theorem dX1_appetite_42 : decode cX1_appetite 42 = .ok (.aload_n 0, 1) := by decide +kernel
theorem dX1_appetite_43 : decode cX1_appetite 43 = .ok (.getfield 42, 3) := by decide +kernel
theorem dX1_appetite_46 : decode cX1_appetite 46 = .ok (.ifCond .le 5, 3) := by decide +kernel
theorem dX1_appetite_49 : decode cX1_appetite 49 = .ok (.iconst 0, 1) := by decide +kernel
theorem dX1_appetite_50 : decode cX1_appetite 50 = .ok (.ireturn, 1) := by decide +kernel
theorem dX1_appetite_51 : decode cX1_appetite 51 = .ok (.aload_n 0, 1) := by decide +kernel
theorem dX1_appetite_52 : decode cX1_appetite 52 = .ok (.getfield 23, 3) := by decide +kernel
theorem dX1_appetite_55 : decode cX1_appetite 55 = .ok (.iload_n 1, 1) := by decide +kernel
theorem dX1_appetite_56 : decode cX1_appetite 56 = .ok (.iaload, 1) := by decide +kernel
theorem dX1_appetite_57 : decode cX1_appetite 57 = .ok (.istore_n 3, 1) := by decide +kernel
theorem dX1_appetite_58 : decode cX1_appetite 58 = .ok (.aload_n 0, 1) := by decide +kernel
theorem dX1_appetite_59 : decode cX1_appetite 59 = .ok (.getfield 23, 3) := by decide +kernel
theorem dX1_appetite_62 : decode cX1_appetite 62 = .ok (.iload_n 1, 1) := by decide +kernel
theorem dX1_appetite_63 : decode cX1_appetite 63 = .ok (.iload_n 2, 1) := by decide +kernel
theorem dX1_appetite_64 : decode cX1_appetite 64 = .ok (.iastore, 1) := by decide +kernel
theorem dX1_appetite_65 : decode cX1_appetite 65 = .ok (.iload_n 3, 1) := by decide +kernel
theorem dX1_appetite_66 : decode cX1_appetite 66 = .ok (.ireturn, 1) := by decide +kernel
set_option maxRecDepth 20000 in
theorem ggX1_stay_X1_isPoint : GoodIn wsX1_stay wsX1_isPoint := goodIn_r _ [9, 10, 2, 11, 12, 8, 13, 18, 19, 20, 21, 22, 23, 24, 25, 26, 27, 28, 29, 30, 31, 32, 33] (by decide +kernel) (by decide +kernel)
set_option maxRecDepth 20000 in
theorem gX1_stay_X1_isPoint : GoodIn wsX1_stay (wsV RX1 72 RX1 yX1_isPoint wsX1_isPoint) := goodIn_app (goodIn_of _ (by decide +kernel)) ggX1_stay_X1_isPoint
set_option maxRecDepth 20000 in
theorem ggX1_stay_X1_isIn : GoodIn wsX1_stay wsX1_isIn := goodIn_r _ [13] (by decide +kernel) (by decide +kernel)
set_option maxRecDepth 20000 in
theorem gX1_stay_X1_isIn : GoodIn wsX1_stay (va_wsS RX1 45 yX1_isIn wsX1_isIn) := goodIn_app (goodIn_of _ (by decide +kernel)) ggX1_stay_X1_isIn
set_option maxRecDepth 20000 in
theorem ggX1_stay_X1_stepsLeft : GoodIn wsX1_stay wsX1_stepsLeft := goodIn_r _ [17, 3, 4, 18, 19, 20, 21, 22, 23, 24, 25, 26, 27, 28, 29, 30, 31, 32, 33] (by decide +kernel) (by decide +kernel)
set_option maxRecDepth 20000 in
theorem gX1_stay_X1_stepsLeft : GoodIn wsX1_stay (wsV RX1 58 RX1 yX1_stepsLeft wsX1_stepsLeft) := goodIn_app (goodIn_of _ (by decide +kernel)) ggX1_stay_X1_stepsLeft
theorem dX1_stay_0 : decode cX1_stay 0 = .ok (.aload_n 0, 1) := by decide +kernel
theorem dX1_stay_1 : decode cX1_stay 1 = .ok (.iload_n 1, 1) := by decide +kernel
theorem dX1_stay_2 : decode cX1_stay 2 = .ok (.invokevirtual 72, 3) := by decide +kernel
theorem dX1_stay_5 : decode cX1_stay 5 = .ok (.ifCond .ne 5, 3) := by decide +kernel
theorem dX1_stay_8 : decode cX1_stay 8 = .ok (.iconst 0, 1) := by decide +kernel
theorem dX1_stay_9 : decode cX1_stay 9 = .ok (.ireturn, 1) := by decide +kernel
theorem dX1_stay_10 : decode cX1_stay 10 = .ok (.aload_n 0, 1) := by decide +kernel
theorem dX1_stay_11 : decode cX1_stay 11 = .ok (.iload_n 2, 1) := by decide +kernel
theorem dX1_stay_12 : decode cX1_stay 12 = .ok (.iconst 1, 1) := by decide +kernel
theorem dX1_stay_13 : decode cX1_stay 13 = .ok (.sipush 500, 3) := by decide +kernel
theorem dX1_stay_16 : decode cX1_stay 16 = .ok (.invokestatic 45, 3) := by decide +kernel
theorem dX1_stay_19 : decode cX1_stay 19 = .ok (.ifCond .ne 7, 3) := by decide +kernel
theorem dX1_stay_22 : decode cX1_stay 22 = .ok (.iconst 2, 1) := by decide +kernel
theorem dX1_stay_23 : decode cX1_stay 23 = .ok (.goto 17, 3) := by decide +kernel
theorem dX1_stay_26 : decode cX1_stay 26 = .ok (.aload_n 0, 1) := by decide +kernel
theorem dX1_stay_27 : decode cX1_stay 27 = .ok (.getfield 16, 3) := by decide +kernel
theorem dX1_stay_30 : decode cX1_stay 30 = .ok (.iload_n 1, 1) := by decide +kernel
theorem dX1_stay_31 : decode cX1_stay 31 = .ok (.baload, 1) := by decide +kernel
theorem dX1_stay_32 : decode cX1_stay 32 = .ok (.ifCond .eq 7, 3) := by decide +kernel
theorem dX1_stay_35 : decode cX1_stay 35 = .ok (.iconst 0, 1) := by decide +kernel
theorem dX1_stay_36 : decode cX1_stay 36 = .ok (.goto 4, 3) := by decide +kernel
theorem dX1_stay_39 : decode cX1_stay 39 = .ok (.iconst 3, 1) := by decide +kernel
theorem dX1_stay_40 : decode cX1_stay 40 = .ok (.putfield 42, 3) := by decide +kernel
theorem dX1_stay_43 : decode cX1_stay 43 = .ok (.aload_n 0, 1) := by decide +kernel
theorem dX1_stay_44 : decode cX1_stay 44 = .ok (.getfield 42, 3) := by decide +kernel
theorem dX1_stay_47 : decode cX1_stay 47 = .ok (.ifCond .le 5, 3) := by decide +kernel
theorem dX1_stay_50 : decode cX1_stay 50 = .ok (.iconst 0, 1) := by decide +kernel
theorem dX1_stay_51 : decode cX1_stay 51 = .ok (.ireturn, 1) := by decide +kernel
theorem dX1_stay_52 : decode cX1_stay 52 = .ok (.aload_n 0, 1) := by decide +kernel
theorem dX1_stay_53 : decode cX1_stay 53 = .ok (.getfield 26, 3) := by decide +kernel
theorem dX1_stay_56 : decode cX1_stay 56 = .ok (.iload_n 1, 1) := by decide +kernel
theorem dX1_stay_57 : decode cX1_stay 57 = .ok (.aload_n 0, 1) := by decide +kernel
theorem dX1_stay_58 : decode cX1_stay 58 = .ok (.getfield 55, 3) := by decide +kernel
theorem dX1_stay_61 : decode cX1_stay 61 = .ok (.aload_n 0, 1) := by decide +kernel
theorem dX1_stay_62 : decode cX1_stay 62 = .ok (.iload_n 1, 1) := by decide +kernel
theorem dX1_stay_63 : decode cX1_stay 63 = .ok (.invokevirtual 58, 3) := by decide +kernel
theorem dX1_stay_66 : decode cX1_stay 66 = .ok (.iadd, 1) := by decide +kernel
theorem dX1_stay_67 : decode cX1_stay 67 = .ok (.iload_n 2, 1) := by decide +kernel
theorem dX1_stay_68 : decode cX1_stay 68 = .ok (.iadd, 1) := by decide +kernel
theorem dX1_stay_69 : decode cX1_stay 69 = .ok (.iastore, 1) := by decide +kernel
theorem dX1_stay_70 : decode cX1_stay 70 = .ok (.aload_n 0, 1) := by decide +kernel
theorem dX1_stay_71 : decode cX1_stay 71 = .ok (.iload_n 1, 1) := by decide +kernel
theorem dX1_stay_72 : decode cX1_stay 72 = .ok (.invokevirtual 58, 3) := by decide +kernel
theorem dX1_stay_75 : decode cX1_stay 75 = .ok (.ireturn, 1) := by decide +kernel
theorem dX1_flows_0 : decode cX1_flows 0 = .ok (.iconst 0, 1) := by decide +kernel
theorem dX1_flows_1 : decode cX1_flows 1 = .ok (.istore_n 2, 1) := by decide +kernel
theorem dX1_flows_2 : decode cX1_flows 2 = .ok (.iconst 0, 1) := by decide +kernel
theorem dX1_flows_3 : decode cX1_flows 3 = .ok (.istore_n 3, 1) := by decide +kernel
theorem dX1_flows_4 : decode cX1_flows 4 = .ok (.iload_n 3, 1) := by decide +kernel
theorem dX1_flows_5 : decode cX1_flows 5 = .ok (.aload_n 0, 1) := by decide +kernel
theorem dX1_flows_6 : decode cX1_flows 6 = .ok (.getfield 49, 3) := by decide +kernel
theorem dX1_flows_9 : decode cX1_flows 9 = .ok (.if_icmp .ge 42, 3) := by decide +kernel
theorem dX1_flows_12 : decode cX1_flows 12 = .ok (.iload_n 2, 1) := by decide +kernel
theorem dX1_flows_13 : decode cX1_flows 13 = .ok (.aload_n 0, 1) := by decide +kernel
theorem dX1_flows_14 : decode cX1_flows 14 = .ok (.getfield 7, 3) := by decide +kernel
theorem dX1_flows_17 : decode cX1_flows 17 = .ok (.iload_n 3, 1) := by decide +kernel
theorem dX1_flows_18 : decode cX1_flows 18 = .ok (.iaload, 1) := by decide +kernel
theorem dX1_flows_19 : decode cX1_flows 19 = .ok (.iload_n 1, 1) := by decide +kernel
theorem dX1_flows_20 : decode cX1_flows 20 = .ok (.if_icmp .eq 13, 3) := by decide +kernel
theorem dX1_flows_23 : decode cX1_flows 23 = .ok (.aload_n 0, 1) := by decide +kernel
theorem dX1_flows_24 : decode cX1_flows 24 = .ok (.getfield 7, 3) := by decide +kernel
theorem dX1_flows_27 : decode cX1_flows 27 = .ok (.iload_n 3, 1) := by decide +kernel
theorem dX1_flows_28 : decode cX1_flows 28 = .ok (.iaload, 1) := by decide +kernel
theorem dX1_flows_29 : decode cX1_flows 29 = .ok (.iconst 3, 1) := by decide +kernel
theorem dX1_flows_30 : decode cX1_flows 30 = .ok (.if_icmp .ne 12, 3) := by decide +kernel
theorem dX1_flows_33 : decode cX1_flows 33 = .ok (.aload_n 0, 1) := by decide +kernel
theorem dX1_flows_34 : decode cX1_flows 34 = .ok (.getfield 36, 3) := by decide +kernel
theorem dX1_flows_37 : decode cX1_flows 37 = .ok (.iload_n 3, 1) := by decide +kernel
theorem dX1_flows_38 : decode cX1_flows 38 = .ok (.iaload, 1) := by decide +kernel
theorem dX1_flows_39 : decode cX1_flows 39 = .ok (.goto 4, 3) := by decide +kernel
theorem dX1_flows_42 : decode cX1_flows 42 = .ok (.iconst 0, 1) := by decide +kernel
theorem dX1_flows_43 : decode cX1_flows 43 = .ok (.iadd, 1) := by decide +kernel
theorem dX1_flows_44 : decode cX1_flows 44 = .ok (.istore_n 2, 1) := by decide +kernel
theorem dX1_flows_45 : decode cX1_flows 45 = .ok (.iinc 3 1, 3) := by decide +kernel
theorem dX1_flows_48 : decode cX1_flows 48 = .ok (.goto (-44), 3) := by decide +kernel
theorem dX1_flows_51 : decode cX1_flows 51 = .ok (.iload_n 2, 1) := by decide +kernel
theorem dX1_flows_52 : decode cX1_flows 52 = .ok (.ireturn, 1) := by decide +kernel
set_option maxRecDepth 20000 in
theorem ggX1_room_X1_flows : GoodIn wsX1_room wsX1_flows := goodIn_r _ [7, 8, 2, 9, 10, 11, 12, 13, 14, 15, 16, 17, 18, 19, 20, 21, 22, 23, 24, 25] (by decide +kernel) (by decide +kernel)
set_option maxRecDepth 20000 in
theorem gX1_room_X1_flows : GoodIn wsX1_room (wsV RX1 82 RX1 yX1_flows wsX1_flows) := goodIn_app (goodIn_of _ (by decide +kernel)) ggX1_room_X1_flows
theorem dX1_room_0 : decode cX1_room 0 = .ok (.bipush 100, 2) := by decide +kernel
theorem dX1_room_2 : decode cX1_room 2 = .ok (.istore_n 2, 1) := by decide +kernel
theorem dX1_room_3 : decode cX1_room 3 = .ok (.iconst 0, 1) := by decide +kernel
theorem dX1_room_4 : decode cX1_room 4 = .ok (.istore_n 3, 1) := by decide +kernel
theorem dX1_room_5 : decode cX1_room 5 = .ok (.iload_n 3, 1) := by decide +kernel
theorem dX1_room_6 : decode cX1_room 6 = .ok (.iconst 3, 1) := by decide +kernel
theorem dX1_room_7 : decode cX1_room 7 = .ok (.if_icmp .ge 56, 3) := by decide +kernel
theorem dX1_room_10 : decode cX1_room 10 = .ok (.aload_n 0, 1) := by decide +kernel
theorem dX1_room_11 : decode cX1_room 11 = .ok (.getfield 29, 3) := by decide +kernel
theorem dX1_room_14 : decode cX1_room 14 = .ok (.iload_n 3, 1) := by decide +kernel
theorem dX1_room_15 : decode cX1_room 15 = .ok (.iaload, 1) := by decide +kernel
theorem dX1_room_16 : decode cX1_room 16 = .ok (.aload_n 0, 1) := by decide +kernel
theorem dX1_room_17 : decode cX1_room 17 = .ok (.iload_n 3, 1) := by decide +kernel
theorem dX1_room_18 : decode cX1_room 18 = .ok (.invokevirtual 82, 3) := by decide +kernel
theorem dX1_room_21 : decode cX1_room 21 = .ok (.isub, 1) := by decide +kernel
theorem dX1_room_22 : decode cX1_room 22 = .ok (.istore 4, 2) := by decide +kernel
theorem dX1_room_24 : decode cX1_room 24 = .ok (.aload_n 0, 1) := by decide +kernel
theorem dX1_room_25 : decode cX1_room 25 = .ok (.getfield 7, 3) := by decide +kernel
theorem dX1_room_28 : decode cX1_room 28 = .ok (.iload_n 1, 1) := by decide +kernel
theorem dX1_room_29 : decode cX1_room 29 = .ok (.iaload, 1) := by decide +kernel
theorem dX1_room_30 : decode cX1_room 30 = .ok (.iload_n 3, 1) := by decide +kernel
theorem dX1_room_31 : decode cX1_room 31 = .ok (.if_icmp .eq 13, 3) := by decide +kernel
theorem dX1_room_34 : decode cX1_room 34 = .ok (.aload_n 0, 1) := by decide +kernel
theorem dX1_room_35 : decode cX1_room 35 = .ok (.getfield 7, 3) := by decide +kernel
theorem dX1_room_38 : decode cX1_room 38 = .ok (.iload_n 1, 1) := by decide +kernel
theorem dX1_room_39 : decode cX1_room 39 = .ok (.iaload, 1) := by decide +kernel
theorem dX1_room_40 : decode cX1_room 40 = .ok (.iconst 3, 1) := by decide +kernel
theorem dX1_room_41 : decode cX1_room 41 = .ok (.if_icmp .ne 14, 3) := by decide +kernel
theorem dX1_room_44 : decode cX1_room 44 = .ok (.iload 4, 2) := by decide +kernel
theorem dX1_room_46 : decode cX1_room 46 = .ok (.iload_n 2, 1) := by decide +kernel
theorem dX1_room_47 : decode cX1_room 47 = .ok (.if_icmp .ge 8, 3) := by decide +kernel
theorem dX1_room_50 : decode cX1_room 50 = .ok (.iload 4, 2) := by decide +kernel
theorem dX1_room_52 : decode cX1_room 52 = .ok (.goto 4, 3) := by decide +kernel
theorem dX1_room_55 : decode cX1_room 55 = .ok (.iload_n 2, 1) := by decide +kernel
theorem dX1_room_56 : decode cX1_room 56 = .ok (.istore_n 2, 1) := by decide +kernel
theorem dX1_room_57 : decode cX1_room 57 = .ok (.iinc 3 1, 3) := by decide +kernel
theorem dX1_room_60 : decode cX1_room 60 = .ok (.goto (-55), 3) := by decide +kernel
theorem dX1_room_63 : decode cX1_room 63 = .ok (.iload_n 2, 1) := by decide +kernel
theorem dX1_room_64 : decode cX1_room 64 = .ok (.ireturn, 1) := by decide +kernel
set_option maxRecDepth 20000 in
theorem ggX1_ahead_X1_reaches : GoodIn wsX1_ahead wsX1_reaches := goodIn_r _ [6, 7, 8, 9, 10, 11, 5, 12, 13, 14, 15, 16, 17, 18, 19, 20, 21, 22, 23, 24, 25, 26, 27, 28, 33, 34, 35, 36, 37, 38, 39, 40, 41, 42, 43, 44, 45, 46, 47, 48] (by decide +kernel) (by decide +kernel)
set_option maxRecDepth 20000 in
theorem gX1_ahead_X1_reaches : GoodIn wsX1_ahead (wsV RX1 85 RX1 yX1_reaches wsX1_reaches) := goodIn_app (goodIn_of _ (by decide +kernel)) ggX1_ahead_X1_reaches
set_option maxRecDepth 20000 in
theorem ggX1_ahead_X1_lax : GoodIn wsX1_ahead wsX1_lax := goodIn_r _ [32, 7, 23, 24, 25, 5, 26, 27, 28, 17, 18, 19, 20, 21, 22, 9, 10, 11, 12, 13, 14, 15, 16, 33, 34, 35, 36, 37, 38, 39, 40, 41, 42, 43, 44, 45, 46, 47, 48] (by decide +kernel) (by decide +kernel)
set_option maxRecDepth 20000 in
theorem gX1_ahead_X1_lax : GoodIn wsX1_ahead (wsV RX1 76 RX1 yX1_lax wsX1_lax) := goodIn_app (goodIn_of _ (by decide +kernel)) ggX1_ahead_X1_lax
theorem dX1_ahead_0 : decode cX1_ahead 0 = .ok (.iconst 0, 1) := by decide +kernel
theorem dX1_ahead_1 : decode cX1_ahead 1 = .ok (.istore_n 2, 1) := by decide +kernel
theorem dX1_ahead_2 : decode cX1_ahead 2 = .ok (.iconst 0, 1) := by decide +kernel
theorem dX1_ahead_3 : decode cX1_ahead 3 = .ok (.istore_n 3, 1) := by decide +kernel
theorem dX1_ahead_4 : decode cX1_ahead 4 = .ok (.iload_n 3, 1) := by decide +kernel
theorem dX1_ahead_5 : decode cX1_ahead 5 = .ok (.aload_n 0, 1) := by decide +kernel
theorem dX1_ahead_6 : decode cX1_ahead 6 = .ok (.getfield 49, 3) := by decide +kernel
theorem dX1_ahead_9 : decode cX1_ahead 9 = .ok (.if_icmp .ge 56, 3) := by decide +kernel
theorem dX1_ahead_12 : decode cX1_ahead 12 = .ok (.iload_n 2, 1) := by decide +kernel
theorem dX1_ahead_13 : decode cX1_ahead 13 = .ok (.aload_n 0, 1) := by decide +kernel
theorem dX1_ahead_14 : decode cX1_ahead 14 = .ok (.iload_n 3, 1) := by decide +kernel
theorem dX1_ahead_15 : decode cX1_ahead 15 = .ok (.invokevirtual 85, 3) := by decide +kernel
theorem dX1_ahead_18 : decode cX1_ahead 18 = .ok (.ifCond .le 38, 3) := by decide +kernel
theorem dX1_ahead_21 : decode cX1_ahead 21 = .ok (.aload_n 0, 1) := by decide +kernel
theorem dX1_ahead_22 : decode cX1_ahead 22 = .ok (.iload_n 3, 1) := by decide +kernel
theorem dX1_ahead_23 : decode cX1_ahead 23 = .ok (.invokevirtual 76, 3) := by decide +kernel
theorem dX1_ahead_26 : decode cX1_ahead 26 = .ok (.aload_n 0, 1) := by decide +kernel
theorem dX1_ahead_27 : decode cX1_ahead 27 = .ok (.iload_n 1, 1) := by decide +kernel
theorem dX1_ahead_28 : decode cX1_ahead 28 = .ok (.invokevirtual 76, 3) := by decide +kernel
theorem dX1_ahead_31 : decode cX1_ahead 31 = .ok (.if_icmp .lt 21, 3) := by decide +kernel
theorem dX1_ahead_34 : decode cX1_ahead 34 = .ok (.aload_n 0, 1) := by decide +kernel
theorem dX1_ahead_35 : decode cX1_ahead 35 = .ok (.iload_n 3, 1) := by decide +kernel
theorem dX1_ahead_36 : decode cX1_ahead 36 = .ok (.invokevirtual 76, 3) := by decide +kernel
theorem dX1_ahead_39 : decode cX1_ahead 39 = .ok (.aload_n 0, 1) := by decide +kernel
theorem dX1_ahead_40 : decode cX1_ahead 40 = .ok (.iload_n 1, 1) := by decide +kernel
theorem dX1_ahead_41 : decode cX1_ahead 41 = .ok (.invokevirtual 76, 3) := by decide +kernel
theorem dX1_ahead_44 : decode cX1_ahead 44 = .ok (.if_icmp .ne 12, 3) := by decide +kernel
theorem dX1_ahead_47 : decode cX1_ahead 47 = .ok (.iload_n 3, 1) := by decide +kernel
theorem dX1_ahead_48 : decode cX1_ahead 48 = .ok (.iload_n 1, 1) := by decide +kernel
theorem dX1_ahead_49 : decode cX1_ahead 49 = .ok (.if_icmp .ge 7, 3) := by decide +kernel
theorem dX1_ahead_52 : decode cX1_ahead 52 = .ok (.iconst 1, 1) := by decide +kernel
theorem dX1_ahead_53 : decode cX1_ahead 53 = .ok (.goto 4, 3) := by decide +kernel
theorem dX1_ahead_56 : decode cX1_ahead 56 = .ok (.iconst 0, 1) := by decide +kernel
theorem dX1_ahead_57 : decode cX1_ahead 57 = .ok (.iadd, 1) := by decide +kernel
theorem dX1_ahead_58 : decode cX1_ahead 58 = .ok (.istore_n 2, 1) := by decide +kernel
theorem dX1_ahead_59 : decode cX1_ahead 59 = .ok (.iinc 3 1, 3) := by decide +kernel
theorem dX1_ahead_62 : decode cX1_ahead 62 = .ok (.goto (-58), 3) := by decide +kernel
theorem dX1_ahead_65 : decode cX1_ahead 65 = .ok (.iload_n 2, 1) := by decide +kernel
theorem dX1_ahead_66 : decode cX1_ahead 66 = .ok (.ireturn, 1) := by decide +kernel
set_option maxRecDepth 20000 in
theorem ggX1_byLaxity_X1_reaches : GoodIn wsX1_byLaxity wsX1_reaches := goodIn_r _ [7, 8, 9, 10, 11, 12, 6, 13, 14, 15, 16, 17, 18, 19, 20, 21, 22, 23, 24, 25, 26, 27, 28, 29, 47, 48, 49, 50, 51, 52, 53, 54, 55, 56, 57, 58, 59, 60, 61, 62] (by decide +kernel) (by decide +kernel)
set_option maxRecDepth 20000 in
theorem gX1_byLaxity_X1_reaches : GoodIn wsX1_byLaxity (wsV RX1 85 RX1 yX1_reaches wsX1_reaches) := goodIn_app (goodIn_of _ (by decide +kernel)) ggX1_byLaxity_X1_reaches
set_option maxRecDepth 20000 in
theorem ggX1_byLaxity_X1_ahead : GoodIn wsX1_byLaxity wsX1_ahead := goodIn_r _ [33, 1, 3, 4, 5, 6, 7, 8, 9, 10, 11, 12, 13, 14, 15, 16, 17, 18, 19, 20, 21, 22, 23, 24, 25, 26, 27, 28, 29, 34, 35, 36, 37, 47, 48, 49, 50, 51, 52, 53, 54, 55, 56, 57, 58, 59, 60, 61, 62] (by decide +kernel) (by decide +kernel)
set_option maxRecDepth 20000 in
theorem gX1_byLaxity_X1_ahead : GoodIn wsX1_byLaxity (wsV RX1 88 RX1 yX1_ahead wsX1_ahead) := goodIn_app (goodIn_of _ (by decide +kernel)) ggX1_byLaxity_X1_ahead
set_option maxRecDepth 20000 in
theorem ggX1_byLaxity_X1_room : GoodIn wsX1_byLaxity wsX1_room := goodIn_r _ [41, 42, 14, 43, 44, 45, 6, 46, 1, 2, 47, 48, 49, 50, 51, 52, 53, 54, 55, 56, 57, 58, 59, 60, 61, 62] (by decide +kernel) (by decide +kernel)
set_option maxRecDepth 20000 in
theorem gX1_byLaxity_X1_room : GoodIn wsX1_byLaxity (wsV RX1 91 RX1 yX1_room wsX1_room) := goodIn_app (goodIn_of _ (by decide +kernel)) ggX1_byLaxity_X1_room
theorem dX1_byLaxity_0 : decode cX1_byLaxity 0 = .ok (.iconst 0, 1) := by decide +kernel
theorem dX1_byLaxity_1 : decode cX1_byLaxity 1 = .ok (.istore_n 1, 1) := by decide +kernel
theorem dX1_byLaxity_2 : decode cX1_byLaxity 2 = .ok (.iload_n 1, 1) := by decide +kernel
theorem dX1_byLaxity_3 : decode cX1_byLaxity 3 = .ok (.aload_n 0, 1) := by decide +kernel
theorem dX1_byLaxity_4 : decode cX1_byLaxity 4 = .ok (.getfield 49, 3) := by decide +kernel
theorem dX1_byLaxity_7 : decode cX1_byLaxity 7 = .ok (.if_icmp .ge 74, 3) := by decide +kernel
theorem dX1_byLaxity_10 : decode cX1_byLaxity 10 = .ok (.iconst 0, 1) := by decide +kernel
theorem dX1_byLaxity_11 : decode cX1_byLaxity 11 = .ok (.istore_n 2, 1) := by decide +kernel
theorem dX1_byLaxity_12 : decode cX1_byLaxity 12 = .ok (.iload_n 2, 1) := by decide +kernel
theorem dX1_byLaxity_13 : decode cX1_byLaxity 13 = .ok (.aload_n 0, 1) := by decide +kernel
theorem dX1_byLaxity_14 : decode cX1_byLaxity 14 = .ok (.getfield 49, 3) := by decide +kernel
theorem dX1_byLaxity_17 : decode cX1_byLaxity 17 = .ok (.if_icmp .ge 58, 3) := by decide +kernel
theorem dX1_byLaxity_20 : decode cX1_byLaxity 20 = .ok (.aload_n 0, 1) := by decide +kernel
theorem dX1_byLaxity_21 : decode cX1_byLaxity 21 = .ok (.iload_n 2, 1) := by decide +kernel
theorem dX1_byLaxity_22 : decode cX1_byLaxity 22 = .ok (.invokevirtual 85, 3) := by decide +kernel
theorem dX1_byLaxity_25 : decode cX1_byLaxity 25 = .ok (.ifCond .le 44, 3) := by decide +kernel
theorem dX1_byLaxity_28 : decode cX1_byLaxity 28 = .ok (.aload_n 0, 1) := by decide +kernel
theorem dX1_byLaxity_29 : decode cX1_byLaxity 29 = .ok (.iload_n 2, 1) := by decide +kernel
theorem dX1_byLaxity_30 : decode cX1_byLaxity 30 = .ok (.invokevirtual 88, 3) := by decide +kernel
theorem dX1_byLaxity_33 : decode cX1_byLaxity 33 = .ok (.iload_n 1, 1) := by decide +kernel
theorem dX1_byLaxity_34 : decode cX1_byLaxity 34 = .ok (.if_icmp .ne 35, 3) := by decide +kernel
theorem dX1_byLaxity_37 : decode cX1_byLaxity 37 = .ok (.aload_n 0, 1) := by decide +kernel
theorem dX1_byLaxity_38 : decode cX1_byLaxity 38 = .ok (.getfield 36, 3) := by decide +kernel
theorem dX1_byLaxity_41 : decode cX1_byLaxity 41 = .ok (.iload_n 2, 1) := by decide +kernel
theorem dX1_byLaxity_42 : decode cX1_byLaxity 42 = .ok (.aload_n 0, 1) := by decide +kernel
theorem dX1_byLaxity_43 : decode cX1_byLaxity 43 = .ok (.iload_n 2, 1) := by decide +kernel
theorem dX1_byLaxity_44 : decode cX1_byLaxity 44 = .ok (.invokevirtual 91, 3) := by decide +kernel
theorem dX1_byLaxity_47 : decode cX1_byLaxity 47 = .ok (.aload_n 0, 1) := by decide +kernel
theorem dX1_byLaxity_48 : decode cX1_byLaxity 48 = .ok (.iload_n 2, 1) := by decide +kernel
theorem dX1_byLaxity_49 : decode cX1_byLaxity 49 = .ok (.invokevirtual 85, 3) := by decide +kernel
theorem dX1_byLaxity_52 : decode cX1_byLaxity 52 = .ok (.if_icmp .ge 11, 3) := by decide +kernel
theorem dX1_byLaxity_55 : decode cX1_byLaxity 55 = .ok (.aload_n 0, 1) := by decide +kernel
theorem dX1_byLaxity_56 : decode cX1_byLaxity 56 = .ok (.iload_n 2, 1) := by decide +kernel
theorem dX1_byLaxity_57 : decode cX1_byLaxity 57 = .ok (.invokevirtual 91, 3) := by decide +kernel
theorem dX1_byLaxity_60 : decode cX1_byLaxity 60 = .ok (.goto 8, 3) := by decide +kernel
theorem dX1_byLaxity_63 : decode cX1_byLaxity 63 = .ok (.aload_n 0, 1) := by decide +kernel
theorem dX1_byLaxity_64 : decode cX1_byLaxity 64 = .ok (.iload_n 2, 1) := by decide +kernel
theorem dX1_byLaxity_65 : decode cX1_byLaxity 65 = .ok (.invokevirtual 85, 3) := by decide +kernel
theorem dX1_byLaxity_68 : decode cX1_byLaxity 68 = .ok (.iastore, 1) := by decide +kernel
theorem dX1_byLaxity_69 : decode cX1_byLaxity 69 = .ok (.iinc 2 1, 3) := by decide +kernel
theorem dX1_byLaxity_72 : decode cX1_byLaxity 72 = .ok (.goto (-60), 3) := by decide +kernel
theorem dX1_byLaxity_75 : decode cX1_byLaxity 75 = .ok (.iinc 1 1, 3) := by decide +kernel
theorem dX1_byLaxity_78 : decode cX1_byLaxity 78 = .ok (.goto (-76), 3) := by decide +kernel
theorem dX1_byLaxity_81 : decode cX1_byLaxity 81 = .ok (.return_, 1) := by decide +kernel
set_option maxRecDepth 20000 in
theorem ggX1_fairly_X1_reaches : GoodIn wsX1_fairly wsX1_reaches := goodIn_r _ [8, 9, 10, 11, 12, 13, 7, 14, 15, 16, 17, 18, 19, 20, 21, 22, 23, 24, 25, 26, 27, 28, 29, 30, 40, 41, 42, 43, 44, 45, 46, 47, 48, 49, 50, 51, 52, 53, 54, 55] (by decide +kernel) (by decide +kernel)
set_option maxRecDepth 20000 in
theorem gX1_fairly_X1_reaches : GoodIn wsX1_fairly (wsV RX1 85 RX1 yX1_reaches wsX1_reaches) := goodIn_app (goodIn_of _ (by decide +kernel)) ggX1_fairly_X1_reaches
set_option maxRecDepth 20000 in
theorem ggX1_fairly_X1_room : GoodIn wsX1_fairly wsX1_room := goodIn_r _ [34, 35, 15, 36, 37, 38, 7, 39, 1, 2, 40, 41, 42, 43, 44, 45, 46, 47, 48, 49, 50, 51, 52, 53, 54, 55] (by decide +kernel) (by decide +kernel)
set_option maxRecDepth 20000 in
theorem gX1_fairly_X1_room : GoodIn wsX1_fairly (wsV RX1 91 RX1 yX1_room wsX1_room) := goodIn_app (goodIn_of _ (by decide +kernel)) ggX1_fairly_X1_room
theorem dX1_fairly_0 : decode cX1_fairly 0 = .ok (.iconst 1, 1) := by decide +kernel
theorem dX1_fairly_1 : decode cX1_fairly 1 = .ok (.istore_n 1, 1) := by decide +kernel
theorem dX1_fairly_2 : decode cX1_fairly 2 = .ok (.iload_n 1, 1) := by decide +kernel
theorem dX1_fairly_3 : decode cX1_fairly 3 = .ok (.ifCond .eq 107, 3) := by decide +kernel
theorem dX1_fairly_6 : decode cX1_fairly 6 = .ok (.iconst 0, 1) := by decide +kernel
theorem dX1_fairly_7 : decode cX1_fairly 7 = .ok (.istore_n 1, 1) := by decide +kernel
theorem dX1_fairly_8 : decode cX1_fairly 8 = .ok (.iconst 0, 1) := by decide +kernel
theorem dX1_fairly_9 : decode cX1_fairly 9 = .ok (.istore_n 2, 1) := by decide +kernel
theorem dX1_fairly_10 : decode cX1_fairly 10 = .ok (.iload_n 2, 1) := by decide +kernel
theorem dX1_fairly_11 : decode cX1_fairly 11 = .ok (.aload_n 0, 1) := by decide +kernel
theorem dX1_fairly_12 : decode cX1_fairly 12 = .ok (.getfield 49, 3) := by decide +kernel
theorem dX1_fairly_15 : decode cX1_fairly 15 = .ok (.if_icmp .ge 92, 3) := by decide +kernel
theorem dX1_fairly_18 : decode cX1_fairly 18 = .ok (.aload_n 0, 1) := by decide +kernel
theorem dX1_fairly_19 : decode cX1_fairly 19 = .ok (.getfield 36, 3) := by decide +kernel
theorem dX1_fairly_22 : decode cX1_fairly 22 = .ok (.iload_n 2, 1) := by decide +kernel
theorem dX1_fairly_23 : decode cX1_fairly 23 = .ok (.iaload, 1) := by decide +kernel
theorem dX1_fairly_24 : decode cX1_fairly 24 = .ok (.aload_n 0, 1) := by decide +kernel
theorem dX1_fairly_25 : decode cX1_fairly 25 = .ok (.iload_n 2, 1) := by decide +kernel
theorem dX1_fairly_26 : decode cX1_fairly 26 = .ok (.invokevirtual 85, 3) := by decide +kernel
theorem dX1_fairly_29 : decode cX1_fairly 29 = .ok (.if_icmp .ge 72, 3) := by decide +kernel
theorem dX1_fairly_32 : decode cX1_fairly 32 = .ok (.aload_n 0, 1) := by decide +kernel
theorem dX1_fairly_33 : decode cX1_fairly 33 = .ok (.getfield 39, 3) := by decide +kernel
theorem dX1_fairly_36 : decode cX1_fairly 36 = .ok (.iload_n 2, 1) := by decide +kernel
theorem dX1_fairly_37 : decode cX1_fairly 37 = .ok (.baload, 1) := by decide +kernel
theorem dX1_fairly_38 : decode cX1_fairly 38 = .ok (.ifCond .ne 63, 3) := by decide +kernel
theorem dX1_fairly_41 : decode cX1_fairly 41 = .ok (.aload_n 0, 1) := by decide +kernel
theorem dX1_fairly_42 : decode cX1_fairly 42 = .ok (.getfield 39, 3) := by decide +kernel
theorem dX1_fairly_45 : decode cX1_fairly 45 = .ok (.iload_n 2, 1) := by decide +kernel
theorem dX1_fairly_46 : decode cX1_fairly 46 = .ok (.aload_n 0, 1) := by decide +kernel
theorem dX1_fairly_47 : decode cX1_fairly 47 = .ok (.iload_n 2, 1) := by decide +kernel
theorem dX1_fairly_48 : decode cX1_fairly 48 = .ok (.invokevirtual 91, 3) := by decide +kernel
theorem dX1_fairly_51 : decode cX1_fairly 51 = .ok (.iconst 1, 1) := by decide +kernel
theorem dX1_fairly_52 : decode cX1_fairly 52 = .ok (.if_icmp .ge 7, 3) := by decide +kernel
theorem dX1_fairly_55 : decode cX1_fairly 55 = .ok (.iconst 1, 1) := by decide +kernel
theorem dX1_fairly_56 : decode cX1_fairly 56 = .ok (.goto 4, 3) := by decide +kernel
theorem dX1_fairly_59 : decode cX1_fairly 59 = .ok (.iconst 0, 1) := by decide +kernel
theorem dX1_fairly_60 : decode cX1_fairly 60 = .ok (.bastore, 1) := by decide +kernel
theorem dX1_fairly_61 : decode cX1_fairly 61 = .ok (.aload_n 0, 1) := by decide +kernel
theorem dX1_fairly_62 : decode cX1_fairly 62 = .ok (.getfield 36, 3) := by decide +kernel
theorem dX1_fairly_65 : decode cX1_fairly 65 = .ok (.iload_n 2, 1) := by decide +kernel
theorem dX1_fairly_66 : decode cX1_fairly 66 = .ok (.dup2, 1) := by decide +kernel
theorem dX1_fairly_67 : decode cX1_fairly 67 = .ok (.iaload, 1) := by decide +kernel
theorem dX1_fairly_68 : decode cX1_fairly 68 = .ok (.aload_n 0, 1) := by decide +kernel
theorem dX1_fairly_69 : decode cX1_fairly 69 = .ok (.getfield 39, 3) := by decide +kernel
theorem dX1_fairly_72 : decode cX1_fairly 72 = .ok (.iload_n 2, 1) := by decide +kernel
theorem dX1_fairly_73 : decode cX1_fairly 73 = .ok (.baload, 1) := by decide +kernel
theorem dX1_fairly_74 : decode cX1_fairly 74 = .ok (.ifCond .eq 7, 3) := by decide +kernel
theorem dX1_fairly_77 : decode cX1_fairly 77 = .ok (.iconst 0, 1) := by decide +kernel
theorem dX1_fairly_78 : decode cX1_fairly 78 = .ok (.goto 4, 3) := by decide +kernel
theorem dX1_fairly_81 : decode cX1_fairly 81 = .ok (.iconst 1, 1) := by decide +kernel
theorem dX1_fairly_82 : decode cX1_fairly 82 = .ok (.iadd, 1) := by decide +kernel
theorem dX1_fairly_83 : decode cX1_fairly 83 = .ok (.iastore, 1) := by decide +kernel
theorem dX1_fairly_84 : decode cX1_fairly 84 = .ok (.iload_n 1, 1) := by decide +kernel
theorem dX1_fairly_85 : decode cX1_fairly 85 = .ok (.aload_n 0, 1) := by decide +kernel
theorem dX1_fairly_86 : decode cX1_fairly 86 = .ok (.getfield 39, 3) := by decide +kernel
theorem dX1_fairly_89 : decode cX1_fairly 89 = .ok (.iload_n 2, 1) := by decide +kernel
theorem dX1_fairly_90 : decode cX1_fairly 90 = .ok (.baload, 1) := by decide +kernel
theorem dX1_fairly_91 : decode cX1_fairly 91 = .ok (.ifCond .ne 7, 3) := by decide +kernel
theorem dX1_fairly_94 : decode cX1_fairly 94 = .ok (.iconst 1, 1) := by decide +kernel
theorem dX1_fairly_95 : decode cX1_fairly 95 = .ok (.goto 4, 3) := by decide +kernel
theorem dX1_fairly_98 : decode cX1_fairly 98 = .ok (.iconst 0, 1) := by decide +kernel
theorem dX1_fairly_99 : decode cX1_fairly 99 = .ok (.ior, 1) := by decide +kernel
theorem dX1_fairly_100 : decode cX1_fairly 100 = .ok (.istore_n 1, 1) := by decide +kernel
theorem dX1_fairly_101 : decode cX1_fairly 101 = .ok (.iinc 2 1, 3) := by decide +kernel
theorem dX1_fairly_104 : decode cX1_fairly 104 = .ok (.goto (-94), 3) := by decide +kernel
theorem dX1_fairly_107 : decode cX1_fairly 107 = .ok (.goto (-105), 3) := by decide +kernel
theorem dX1_fairly_110 : decode cX1_fairly 110 = .ok (.return_, 1) := by decide +kernel
set_option maxRecDepth 20000 in
theorem ggX1_high_X1_flows : GoodIn wsX1_high wsX1_flows := goodIn_r _ [5, 6, 7, 8, 9, 10, 11, 12, 13, 14, 15, 16, 17, 18, 19, 20, 21, 22, 23, 24] (by decide +kernel) (by decide +kernel)
set_option maxRecDepth 20000 in
theorem gX1_high_X1_flows : GoodIn wsX1_high (wsV RX1 82 RX1 yX1_flows wsX1_flows) := goodIn_app (goodIn_of _ (by decide +kernel)) ggX1_high_X1_flows
theorem dX1_high_0 : decode cX1_high 0 = .ok (.iconst 0, 1) := by decide +kernel
theorem dX1_high_1 : decode cX1_high 1 = .ok (.istore_n 1, 1) := by decide +kernel
theorem dX1_high_2 : decode cX1_high 2 = .ok (.iconst 1, 1) := by decide +kernel
theorem dX1_high_3 : decode cX1_high 3 = .ok (.istore_n 2, 1) := by decide +kernel
theorem dX1_high_4 : decode cX1_high 4 = .ok (.iload_n 2, 1) := by decide +kernel
theorem dX1_high_5 : decode cX1_high 5 = .ok (.iconst 3, 1) := by decide +kernel
theorem dX1_high_6 : decode cX1_high 6 = .ok (.if_icmp .ge 28, 3) := by decide +kernel
theorem dX1_high_9 : decode cX1_high 9 = .ok (.aload_n 0, 1) := by decide +kernel
theorem dX1_high_10 : decode cX1_high 10 = .ok (.iload_n 2, 1) := by decide +kernel
theorem dX1_high_11 : decode cX1_high 11 = .ok (.invokevirtual 82, 3) := by decide +kernel
theorem dX1_high_14 : decode cX1_high 14 = .ok (.aload_n 0, 1) := by decide +kernel
theorem dX1_high_15 : decode cX1_high 15 = .ok (.iload_n 1, 1) := by decide +kernel
theorem dX1_high_16 : decode cX1_high 16 = .ok (.invokevirtual 82, 3) := by decide +kernel
theorem dX1_high_19 : decode cX1_high 19 = .ok (.if_icmp .le 7, 3) := by decide +kernel
theorem dX1_high_22 : decode cX1_high 22 = .ok (.iload_n 2, 1) := by decide +kernel
theorem dX1_high_23 : decode cX1_high 23 = .ok (.goto 4, 3) := by decide +kernel
theorem dX1_high_26 : decode cX1_high 26 = .ok (.iload_n 1, 1) := by decide +kernel
theorem dX1_high_27 : decode cX1_high 27 = .ok (.istore_n 1, 1) := by decide +kernel
theorem dX1_high_28 : decode cX1_high 28 = .ok (.iinc 2 1, 3) := by decide +kernel
theorem dX1_high_31 : decode cX1_high 31 = .ok (.goto (-27), 3) := by decide +kernel
theorem dX1_high_34 : decode cX1_high 34 = .ok (.iload_n 1, 1) := by decide +kernel
theorem dX1_high_35 : decode cX1_high 35 = .ok (.ireturn, 1) := by decide +kernel
set_option maxRecDepth 20000 in
theorem ggX1_apart_X1_flows : GoodIn wsX1_apart wsX1_flows := goodIn_r _ [5, 6, 7, 8, 13, 14, 15, 16, 17, 18, 19, 20, 21, 22, 23, 24, 25, 26, 27, 28] (by decide +kernel) (by decide +kernel)
set_option maxRecDepth 20000 in
theorem gX1_apart_X1_flows : GoodIn wsX1_apart (wsV RX1 82 RX1 yX1_flows wsX1_flows) := goodIn_app (goodIn_of _ (by decide +kernel)) ggX1_apart_X1_flows
set_option maxRecDepth 20000 in
theorem ggX1_apart_X1_high : GoodIn wsX1_apart wsX1_high := goodIn_r _ [12, 1, 2, 3, 4, 5, 6, 7, 8, 13, 14, 15, 16, 17, 18, 19, 20, 21, 22, 23, 24, 25, 26, 27, 28] (by decide +kernel) (by decide +kernel)
set_option maxRecDepth 20000 in
theorem gX1_apart_X1_high : GoodIn wsX1_apart (wsV RX1 94 RX1 yX1_high wsX1_high) := goodIn_app (goodIn_of _ (by decide +kernel)) ggX1_apart_X1_high
theorem dX1_apart_0 : decode cX1_apart 0 = .ok (.aload_n 0, 1) := by decide +kernel
theorem dX1_apart_1 : decode cX1_apart 1 = .ok (.iconst 0, 1) := by decide +kernel
theorem dX1_apart_2 : decode cX1_apart 2 = .ok (.invokevirtual 82, 3) := by decide +kernel
theorem dX1_apart_5 : decode cX1_apart 5 = .ok (.istore_n 1, 1) := by decide +kernel
theorem dX1_apart_6 : decode cX1_apart 6 = .ok (.iconst 1, 1) := by decide +kernel
theorem dX1_apart_7 : decode cX1_apart 7 = .ok (.istore_n 2, 1) := by decide +kernel
theorem dX1_apart_8 : decode cX1_apart 8 = .ok (.iload_n 2, 1) := by decide +kernel
theorem dX1_apart_9 : decode cX1_apart 9 = .ok (.iconst 3, 1) := by decide +kernel
theorem dX1_apart_10 : decode cX1_apart 10 = .ok (.if_icmp .ge 28, 3) := by decide +kernel
theorem dX1_apart_13 : decode cX1_apart 13 = .ok (.aload_n 0, 1) := by decide +kernel
theorem dX1_apart_14 : decode cX1_apart 14 = .ok (.iload_n 2, 1) := by decide +kernel
theorem dX1_apart_15 : decode cX1_apart 15 = .ok (.invokevirtual 82, 3) := by decide +kernel
theorem dX1_apart_18 : decode cX1_apart 18 = .ok (.iload_n 1, 1) := by decide +kernel
theorem dX1_apart_19 : decode cX1_apart 19 = .ok (.if_icmp .ge 11, 3) := by decide +kernel
theorem dX1_apart_22 : decode cX1_apart 22 = .ok (.aload_n 0, 1) := by decide +kernel
theorem dX1_apart_23 : decode cX1_apart 23 = .ok (.iload_n 2, 1) := by decide +kernel
theorem dX1_apart_24 : decode cX1_apart 24 = .ok (.invokevirtual 82, 3) := by decide +kernel
theorem dX1_apart_27 : decode cX1_apart 27 = .ok (.goto 4, 3) := by decide +kernel
theorem dX1_apart_30 : decode cX1_apart 30 = .ok (.iload_n 1, 1) := by decide +kernel
theorem dX1_apart_31 : decode cX1_apart 31 = .ok (.istore_n 1, 1) := by decide +kernel
theorem dX1_apart_32 : decode cX1_apart 32 = .ok (.iinc 2 1, 3) := by decide +kernel
theorem dX1_apart_35 : decode cX1_apart 35 = .ok (.goto (-27), 3) := by decide +kernel
theorem dX1_apart_38 : decode cX1_apart 38 = .ok (.aload_n 0, 1) := by decide +kernel
theorem dX1_apart_39 : decode cX1_apart 39 = .ok (.aload_n 0, 1) := by decide +kernel
theorem dX1_apart_40 : decode cX1_apart 40 = .ok (.invokevirtual 94, 3) := by decide +kernel
theorem dX1_apart_43 : decode cX1_apart 43 = .ok (.invokevirtual 82, 3) := by decide +kernel
theorem dX1_apart_46 : decode cX1_apart 46 = .ok (.iload_n 1, 1) := by decide +kernel
theorem dX1_apart_47 : decode cX1_apart 47 = .ok (.isub, 1) := by decide +kernel
theorem dX1_apart_48 : decode cX1_apart 48 = .ok (.ireturn, 1) := by decide +kernel
theorem dX1_giver_0 : decode cX1_giver 0 = .ok (.iconst (-1), 1) := by decide +kernel
theorem dX1_giver_1 : decode cX1_giver 1 = .ok (.istore_n 2, 1) := by decide +kernel
theorem dX1_giver_2 : decode cX1_giver 2 = .ok (.iconst 1, 1) := by decide +kernel
theorem dX1_giver_3 : decode cX1_giver 3 = .ok (.istore_n 3, 1) := by decide +kernel
theorem dX1_giver_4 : decode cX1_giver 4 = .ok (.iconst 0, 1) := by decide +kernel
theorem dX1_giver_5 : decode cX1_giver 5 = .ok (.istore 4, 2) := by decide +kernel
theorem dX1_giver_7 : decode cX1_giver 7 = .ok (.iload 4, 2) := by decide +kernel
theorem dX1_giver_9 : decode cX1_giver 9 = .ok (.aload_n 0, 1) := by decide +kernel
theorem dX1_giver_10 : decode cX1_giver 10 = .ok (.getfield 49, 3) := by decide +kernel
theorem dX1_giver_13 : decode cX1_giver 13 = .ok (.if_icmp .ge 67, 3) := by decide +kernel
theorem dX1_giver_16 : decode cX1_giver 16 = .ok (.aload_n 0, 1) := by decide +kernel
theorem dX1_giver_17 : decode cX1_giver 17 = .ok (.getfield 7, 3) := by decide +kernel
theorem dX1_giver_20 : decode cX1_giver 20 = .ok (.iload 4, 2) := by decide +kernel
theorem dX1_giver_22 : decode cX1_giver 22 = .ok (.iaload, 1) := by decide +kernel
theorem dX1_giver_23 : decode cX1_giver 23 = .ok (.iload_n 1, 1) := by decide +kernel
theorem dX1_giver_24 : decode cX1_giver 24 = .ok (.if_icmp .ne 18, 3) := by decide +kernel
theorem dX1_giver_27 : decode cX1_giver 27 = .ok (.aload_n 0, 1) := by decide +kernel
theorem dX1_giver_28 : decode cX1_giver 28 = .ok (.getfield 36, 3) := by decide +kernel
theorem dX1_giver_31 : decode cX1_giver 31 = .ok (.iload 4, 2) := by decide +kernel
theorem dX1_giver_33 : decode cX1_giver 33 = .ok (.iaload, 1) := by decide +kernel
theorem dX1_giver_34 : decode cX1_giver 34 = .ok (.iload_n 3, 1) := by decide +kernel
theorem dX1_giver_35 : decode cX1_giver 35 = .ok (.if_icmp .lt 7, 3) := by decide +kernel
theorem dX1_giver_38 : decode cX1_giver 38 = .ok (.iconst 1, 1) := by decide +kernel
theorem dX1_giver_39 : decode cX1_giver 39 = .ok (.goto 4, 3) := by decide +kernel
theorem dX1_giver_42 : decode cX1_giver 42 = .ok (.iconst 0, 1) := by decide +kernel
theorem dX1_giver_43 : decode cX1_giver 43 = .ok (.istore 5, 2) := by decide +kernel
theorem dX1_giver_45 : decode cX1_giver 45 = .ok (.iload 5, 2) := by decide +kernel
theorem dX1_giver_47 : decode cX1_giver 47 = .ok (.ifCond .eq 8, 3) := by decide +kernel
theorem dX1_giver_50 : decode cX1_giver 50 = .ok (.iload 4, 2) := by decide +kernel
theorem dX1_giver_52 : decode cX1_giver 52 = .ok (.goto 4, 3) := by decide +kernel
theorem dX1_giver_55 : decode cX1_giver 55 = .ok (.iload_n 2, 1) := by decide +kernel
theorem dX1_giver_56 : decode cX1_giver 56 = .ok (.istore_n 2, 1) := by decide +kernel
theorem dX1_giver_57 : decode cX1_giver 57 = .ok (.iload 5, 2) := by decide +kernel
theorem dX1_giver_59 : decode cX1_giver 59 = .ok (.ifCond .eq 13, 3) := by decide +kernel
theorem dX1_giver_62 : decode cX1_giver 62 = .ok (.aload_n 0, 1) := by decide +kernel
theorem dX1_giver_63 : decode cX1_giver 63 = .ok (.getfield 36, 3) := by decide +kernel
theorem dX1_giver_66 : decode cX1_giver 66 = .ok (.iload 4, 2) := by decide +kernel
theorem dX1_giver_68 : decode cX1_giver 68 = .ok (.iaload, 1) := by decide +kernel
theorem dX1_giver_69 : decode cX1_giver 69 = .ok (.goto 4, 3) := by decide +kernel
theorem dX1_giver_72 : decode cX1_giver 72 = .ok (.iload_n 3, 1) := by decide +kernel
theorem dX1_giver_73 : decode cX1_giver 73 = .ok (.istore_n 3, 1) := by decide +kernel
theorem dX1_giver_74 : decode cX1_giver 74 = .ok (.iinc 4 1, 3) := by decide +kernel
theorem dX1_giver_77 : decode cX1_giver 77 = .ok (.goto (-70), 3) := by decide +kernel
theorem dX1_giver_80 : decode cX1_giver 80 = .ok (.iload_n 2, 1) := by decide +kernel
theorem dX1_giver_81 : decode cX1_giver 81 = .ok (.ireturn, 1) := by decide +kernel
set_option maxRecDepth 20000 in
theorem ggX1_shares_X1_byLaxity : GoodIn wsX1_shares wsX1_byLaxity := goodIn_r _ [9, 10, 1, 11, 12, 13, 8, 14, 15, 16, 17, 18, 19, 20, 21, 22, 23, 24, 25, 26, 27, 28, 29, 30, 31, 32, 33, 34, 35, 36, 37, 38, 39, 40, 41, 42, 43, 44, 45, 46, 47, 48, 49, 50, 51, 52, 53, 70, 71, 72, 73, 74, 75, 76, 77, 78, 79, 80, 81, 82, 83, 84, 85] (by decide +kernel) (by decide +kernel)
set_option maxRecDepth 20000 in
theorem gX1_shares_X1_byLaxity : GoodIn wsX1_shares (wsV RX1 98 RX1 yX1_byLaxity wsX1_byLaxity) := goodIn_app (goodIn_of _ (by decide +kernel)) ggX1_shares_X1_byLaxity
set_option maxRecDepth 20000 in
theorem ggX1_shares_X1_fairly : GoodIn wsX1_shares wsX1_fairly := goodIn_r _ [57, 10, 1, 2, 11, 12, 13, 8, 14, 15, 16, 17, 18, 19, 20, 21, 22, 23, 24, 25, 26, 27, 28, 29, 30, 31, 32, 33, 34, 35, 36, 45, 46, 47, 48, 49, 50, 51, 52, 53, 70, 71, 72, 73, 74, 75, 76, 77, 78, 79, 80, 81, 82, 83, 84, 85] (by decide +kernel) (by decide +kernel)
set_option maxRecDepth 20000 in
theorem gX1_shares_X1_fairly : GoodIn wsX1_shares (wsV RX1 101 RX1 yX1_fairly wsX1_fairly) := goodIn_app (goodIn_of _ (by decide +kernel)) ggX1_shares_X1_fairly
set_option maxRecDepth 20000 in
theorem ggX1_shares_X1_apart : GoodIn wsX1_shares wsX1_apart := goodIn_r _ [61, 50, 51, 52, 8, 53, 10, 21, 1, 62, 63, 64, 65, 70, 71, 72, 73, 74, 75, 76, 77, 78, 79, 80, 81, 82, 83, 84, 85] (by decide +kernel) (by decide +kernel)
set_option maxRecDepth 20000 in
theorem gX1_shares_X1_apart : GoodIn wsX1_shares (wsV RX1 104 RX1 yX1_apart wsX1_apart) := goodIn_app (goodIn_of _ (by decide +kernel)) ggX1_shares_X1_apart
set_option maxRecDepth 20000 in
theorem ggX1_shares_X1_high : GoodIn wsX1_shares wsX1_high := goodIn_r _ [65, 50, 51, 52, 8, 53, 10, 21, 1, 70, 71, 72, 73, 74, 75, 76, 77, 78, 79, 80, 81, 82, 83, 84, 85] (by decide +kernel) (by decide +kernel)
set_option maxRecDepth 20000 in
theorem gX1_shares_X1_high : GoodIn wsX1_shares (wsV RX1 94 RX1 yX1_high wsX1_high) := goodIn_app (goodIn_of _ (by decide +kernel)) ggX1_shares_X1_high
set_option maxRecDepth 20000 in
theorem ggX1_shares_X1_giver : GoodIn wsX1_shares wsX1_giver := goodIn_r _ [69, 10, 21, 1, 70, 71, 72, 73, 74, 75, 76, 77, 78, 79, 80, 81, 82, 83, 84, 85] (by decide +kernel) (by decide +kernel)
set_option maxRecDepth 20000 in
theorem gX1_shares_X1_giver : GoodIn wsX1_shares (wsV RX1 107 RX1 yX1_giver wsX1_giver) := goodIn_app (goodIn_of _ (by decide +kernel)) ggX1_shares_X1_giver
theorem dX1_shares_0 : decode cX1_shares 0 = .ok (.iconst 0, 1) := by decide +kernel
theorem dX1_shares_1 : decode cX1_shares 1 = .ok (.istore_n 1, 1) := by decide +kernel
theorem dX1_shares_2 : decode cX1_shares 2 = .ok (.iload_n 1, 1) := by decide +kernel
theorem dX1_shares_3 : decode cX1_shares 3 = .ok (.bipush 8, 2) := by decide +kernel
theorem dX1_shares_5 : decode cX1_shares 5 = .ok (.if_icmp .ge 23, 3) := by decide +kernel
theorem dX1_shares_8 : decode cX1_shares 8 = .ok (.aload_n 0, 1) := by decide +kernel
theorem dX1_shares_9 : decode cX1_shares 9 = .ok (.getfield 36, 3) := by decide +kernel
theorem dX1_shares_12 : decode cX1_shares 12 = .ok (.iload_n 1, 1) := by decide +kernel
theorem dX1_shares_13 : decode cX1_shares 13 = .ok (.iconst 0, 1) := by decide +kernel
theorem dX1_shares_14 : decode cX1_shares 14 = .ok (.iastore, 1) := by decide +kernel
theorem dX1_shares_15 : decode cX1_shares 15 = .ok (.aload_n 0, 1) := by decide +kernel
theorem dX1_shares_16 : decode cX1_shares 16 = .ok (.getfield 39, 3) := by decide +kernel
theorem dX1_shares_19 : decode cX1_shares 19 = .ok (.iload_n 1, 1) := by decide +kernel
theorem dX1_shares_20 : decode cX1_shares 20 = .ok (.iconst 0, 1) := by decide +kernel
theorem dX1_shares_21 : decode cX1_shares 21 = .ok (.bastore, 1) := by decide +kernel
theorem dX1_shares_22 : decode cX1_shares 22 = .ok (.iinc 1 1, 3) := by decide +kernel
theorem dX1_shares_25 : decode cX1_shares 25 = .ok (.goto (-23), 3) := by decide +kernel
theorem dX1_shares_28 : decode cX1_shares 28 = .ok (.aload_n 0, 1) := by decide +kernel
theorem dX1_shares_29 : decode cX1_shares 29 = .ok (.getfield 52, 3) := by decide +kernel
theorem dX1_shares_32 : decode cX1_shares 32 = .ok (.ifCond .ne 10, 3) := by decide +kernel
theorem dX1_shares_35 : decode cX1_shares 35 = .ok (.aload_n 0, 1) := by decide +kernel
theorem dX1_shares_36 : decode cX1_shares 36 = .ok (.invokevirtual 98, 3) := by decide +kernel
theorem dX1_shares_39 : decode cX1_shares 39 = .ok (.goto 7, 3) := by decide +kernel
theorem dX1_shares_42 : decode cX1_shares 42 = .ok (.aload_n 0, 1) := by decide +kernel
theorem dX1_shares_43 : decode cX1_shares 43 = .ok (.invokevirtual 101, 3) := by decide +kernel
theorem dX1_shares_46 : decode cX1_shares 46 = .ok (.aload_n 0, 1) := by decide +kernel
theorem dX1_shares_47 : decode cX1_shares 47 = .ok (.invokevirtual 104, 3) := by decide +kernel
theorem dX1_shares_50 : decode cX1_shares 50 = .ok (.aload_n 0, 1) := by decide +kernel
theorem dX1_shares_51 : decode cX1_shares 51 = .ok (.getfield 32, 3) := by decide +kernel
theorem dX1_shares_54 : decode cX1_shares 54 = .ok (.if_icmp .le 34, 3) := by decide +kernel
theorem dX1_shares_57 : decode cX1_shares 57 = .ok (.aload_n 0, 1) := by decide +kernel
theorem dX1_shares_58 : decode cX1_shares 58 = .ok (.aload_n 0, 1) := by decide +kernel
theorem dX1_shares_59 : decode cX1_shares 59 = .ok (.invokevirtual 94, 3) := by decide +kernel
theorem dX1_shares_62 : decode cX1_shares 62 = .ok (.invokevirtual 107, 3) := by decide +kernel
theorem dX1_shares_65 : decode cX1_shares 65 = .ok (.ifCond .lt 23, 3) := by decide +kernel
theorem dX1_shares_68 : decode cX1_shares 68 = .ok (.aload_n 0, 1) := by decide +kernel
theorem dX1_shares_69 : decode cX1_shares 69 = .ok (.getfield 36, 3) := by decide +kernel
theorem dX1_shares_72 : decode cX1_shares 72 = .ok (.aload_n 0, 1) := by decide +kernel
theorem dX1_shares_73 : decode cX1_shares 73 = .ok (.aload_n 0, 1) := by decide +kernel
theorem dX1_shares_74 : decode cX1_shares 74 = .ok (.invokevirtual 94, 3) := by decide +kernel
theorem dX1_shares_77 : decode cX1_shares 77 = .ok (.invokevirtual 107, 3) := by decide +kernel
theorem dX1_shares_80 : decode cX1_shares 80 = .ok (.dup2, 1) := by decide +kernel
theorem dX1_shares_81 : decode cX1_shares 81 = .ok (.iaload, 1) := by decide +kernel
theorem dX1_shares_82 : decode cX1_shares 82 = .ok (.iconst 1, 1) := by decide +kernel
theorem dX1_shares_83 : decode cX1_shares 83 = .ok (.isub, 1) := by decide +kernel
theorem dX1_shares_84 : decode cX1_shares 84 = .ok (.iastore, 1) := by decide +kernel
theorem dX1_shares_85 : decode cX1_shares 85 = .ok (.goto (-39), 3) := by decide +kernel
theorem dX1_shares_88 : decode cX1_shares 88 = .ok (.return_, 1) := by decide +kernel
set_option maxRecDepth 20000 in
theorem ggX1_step_X1_isIn : GoodIn wsX1_step wsX1_isIn := goodIn_r _ [10] (by decide +kernel) (by decide +kernel)
set_option maxRecDepth 20000 in
theorem gX1_step_X1_isIn : GoodIn wsX1_step (va_wsS RX1 45 yX1_isIn wsX1_isIn) := goodIn_app (goodIn_of _ (by decide +kernel)) ggX1_step_X1_isIn
set_option maxRecDepth 20000 in
theorem ggX1_step_X1_shares : GoodIn wsX1_step wsX1_shares := goodIn_r _ [14, 3, 15, 16, 17, 18, 19, 20, 9, 21, 2, 22, 23, 24, 25, 4, 26, 27, 28, 29, 30, 31, 32, 33, 34, 35, 36, 37, 38, 39, 40, 41, 42, 43, 44, 45, 5, 46, 47, 48, 49, 50, 51, 52, 53, 54, 55, 56, 57, 58, 59, 60, 61, 62, 63, 64, 65, 66, 67, 68, 69, 70, 71, 72, 73, 74, 75, 76, 77, 78, 79, 80, 81, 82, 83, 84, 85, 86, 87, 88, 89, 90, 91, 92, 93, 94] (by decide +kernel) (by decide +kernel)
set_option maxRecDepth 20000 in
theorem gX1_step_X1_shares : GoodIn wsX1_step (wsV RX1 110 RX1 yX1_shares wsX1_shares) := goodIn_app (goodIn_of _ (by decide +kernel)) ggX1_step_X1_shares
set_option maxRecDepth 20000 in
theorem ggX1_step_X1_times : GoodIn wsX1_step wsX1_times := goodIn_r _ [30, 31, 79, 80, 81, 82, 83, 84, 85, 86, 87, 88, 89, 90, 91, 92, 93, 94] (by decide +kernel) (by decide +kernel)
set_option maxRecDepth 20000 in
theorem gX1_step_X1_times : GoodIn wsX1_step (wsV RX1 65 RX1 yX1_times wsX1_times) := goodIn_app (goodIn_of _ (by decide +kernel)) ggX1_step_X1_times
theorem dX1_step_0 : decode cX1_step 0 = .ok (.aload_n 0, 1) := by decide +kernel
theorem dX1_step_1 : decode cX1_step 1 = .ok (.iload_n 1, 1) := by decide +kernel
theorem dX1_step_2 : decode cX1_step 2 = .ok (.iconst 1, 1) := by decide +kernel
theorem dX1_step_3 : decode cX1_step 3 = .ok (.bipush 50, 2) := by decide +kernel
theorem dX1_step_5 : decode cX1_step 5 = .ok (.invokestatic 45, 3) := by decide +kernel
theorem dX1_step_8 : decode cX1_step 8 = .ok (.ifCond .eq 7, 3) := by decide +kernel
theorem dX1_step_11 : decode cX1_step 11 = .ok (.iconst 0, 1) := by decide +kernel
theorem dX1_step_12 : decode cX1_step 12 = .ok (.goto 4, 3) := by decide +kernel
theorem dX1_step_15 : decode cX1_step 15 = .ok (.iconst 1, 1) := by decide +kernel
theorem dX1_step_16 : decode cX1_step 16 = .ok (.putfield 42, 3) := by decide +kernel
theorem dX1_step_19 : decode cX1_step 19 = .ok (.iconst 0, 1) := by decide +kernel
theorem dX1_step_20 : decode cX1_step 20 = .ok (.istore_n 2, 1) := by decide +kernel
theorem dX1_step_21 : decode cX1_step 21 = .ok (.iconst 0, 1) := by decide +kernel
theorem dX1_step_22 : decode cX1_step 22 = .ok (.istore_n 3, 1) := by decide +kernel
theorem dX1_step_23 : decode cX1_step 23 = .ok (.iload_n 3, 1) := by decide +kernel
theorem dX1_step_24 : decode cX1_step 24 = .ok (.iload_n 1, 1) := by decide +kernel
theorem dX1_step_25 : decode cX1_step 25 = .ok (.if_icmp .ge 115, 3) := by decide +kernel
theorem dX1_step_28 : decode cX1_step 28 = .ok (.aload_n 0, 1) := by decide +kernel
theorem dX1_step_29 : decode cX1_step 29 = .ok (.getfield 42, 3) := by decide +kernel
theorem dX1_step_32 : decode cX1_step 32 = .ok (.ifCond .ne 108, 3) := by decide +kernel
theorem dX1_step_35 : decode cX1_step 35 = .ok (.aload_n 0, 1) := by decide +kernel
theorem dX1_step_36 : decode cX1_step 36 = .ok (.invokevirtual 110, 3) := by decide +kernel
theorem dX1_step_39 : decode cX1_step 39 = .ok (.iconst 0, 1) := by decide +kernel
theorem dX1_step_40 : decode cX1_step 40 = .ok (.istore 4, 2) := by decide +kernel
theorem dX1_step_42 : decode cX1_step 42 = .ok (.iload 4, 2) := by decide +kernel
theorem dX1_step_44 : decode cX1_step 44 = .ok (.aload_n 0, 1) := by decide +kernel
theorem dX1_step_45 : decode cX1_step 45 = .ok (.getfield 49, 3) := by decide +kernel
theorem dX1_step_48 : decode cX1_step 48 = .ok (.if_icmp .ge 76, 3) := by decide +kernel
theorem dX1_step_51 : decode cX1_step 51 = .ok (.aload_n 0, 1) := by decide +kernel
theorem dX1_step_52 : decode cX1_step 52 = .ok (.getfield 36, 3) := by decide +kernel
theorem dX1_step_55 : decode cX1_step 55 = .ok (.iload 4, 2) := by decide +kernel
theorem dX1_step_57 : decode cX1_step 57 = .ok (.iaload, 1) := by decide +kernel
theorem dX1_step_58 : decode cX1_step 58 = .ok (.aload_n 0, 1) := by decide +kernel
theorem dX1_step_59 : decode cX1_step 59 = .ok (.iload 4, 2) := by decide +kernel
theorem dX1_step_61 : decode cX1_step 61 = .ok (.invokevirtual 65, 3) := by decide +kernel
theorem dX1_step_64 : decode cX1_step 64 = .ok (.imul, 1) := by decide +kernel
theorem dX1_step_65 : decode cX1_step 65 = .ok (.aload_n 0, 1) := by decide +kernel
theorem dX1_step_66 : decode cX1_step 66 = .ok (.getfield 20, 3) := by decide +kernel
theorem dX1_step_69 : decode cX1_step 69 = .ok (.iload 4, 2) := by decide +kernel
theorem dX1_step_71 : decode cX1_step 71 = .ok (.iaload, 1) := by decide +kernel
theorem dX1_step_72 : decode cX1_step 72 = .ok (.if_icmp .ge 20, 3) := by decide +kernel
theorem dX1_step_75 : decode cX1_step 75 = .ok (.aload_n 0, 1) := by decide +kernel
theorem dX1_step_76 : decode cX1_step 76 = .ok (.getfield 36, 3) := by decide +kernel
theorem dX1_step_79 : decode cX1_step 79 = .ok (.iload 4, 2) := by decide +kernel
theorem dX1_step_81 : decode cX1_step 81 = .ok (.iaload, 1) := by decide +kernel
theorem dX1_step_82 : decode cX1_step 82 = .ok (.aload_n 0, 1) := by decide +kernel
theorem dX1_step_83 : decode cX1_step 83 = .ok (.iload 4, 2) := by decide +kernel
theorem dX1_step_85 : decode cX1_step 85 = .ok (.invokevirtual 65, 3) := by decide +kernel
theorem dX1_step_88 : decode cX1_step 88 = .ok (.imul, 1) := by decide +kernel
theorem dX1_step_89 : decode cX1_step 89 = .ok (.goto 10, 3) := by decide +kernel
theorem dX1_step_92 : decode cX1_step 92 = .ok (.aload_n 0, 1) := by decide +kernel
theorem dX1_step_93 : decode cX1_step 93 = .ok (.getfield 20, 3) := by decide +kernel
theorem dX1_step_96 : decode cX1_step 96 = .ok (.iload 4, 2) := by decide +kernel
theorem dX1_step_98 : decode cX1_step 98 = .ok (.iaload, 1) := by decide +kernel
theorem dX1_step_99 : decode cX1_step 99 = .ok (.istore 5, 2) := by decide +kernel
theorem dX1_step_101 : decode cX1_step 101 = .ok (.iload_n 2, 1) := by decide +kernel
theorem dX1_step_102 : decode cX1_step 102 = .ok (.iload 5, 2) := by decide +kernel
theorem dX1_step_104 : decode cX1_step 104 = .ok (.iadd, 1) := by decide +kernel
theorem dX1_step_105 : decode cX1_step 105 = .ok (.istore_n 2, 1) := by decide +kernel
theorem dX1_step_106 : decode cX1_step 106 = .ok (.aload_n 0, 1) := by decide +kernel
theorem dX1_step_107 : decode cX1_step 107 = .ok (.getfield 20, 3) := by decide +kernel
theorem dX1_step_110 : decode cX1_step 110 = .ok (.iload 4, 2) := by decide +kernel
theorem dX1_step_112 : decode cX1_step 112 = .ok (.dup2, 1) := by decide +kernel
theorem dX1_step_113 : decode cX1_step 113 = .ok (.iaload, 1) := by decide +kernel
theorem dX1_step_114 : decode cX1_step 114 = .ok (.iload 5, 2) := by decide +kernel
theorem dX1_step_116 : decode cX1_step 116 = .ok (.isub, 1) := by decide +kernel
theorem dX1_step_117 : decode cX1_step 117 = .ok (.iastore, 1) := by decide +kernel
theorem dX1_step_118 : decode cX1_step 118 = .ok (.iinc 4 1, 3) := by decide +kernel
theorem dX1_step_121 : decode cX1_step 121 = .ok (.goto (-79), 3) := by decide +kernel
theorem dX1_step_124 : decode cX1_step 124 = .ok (.aload_n 0, 1) := by decide +kernel
theorem dX1_step_125 : decode cX1_step 125 = .ok (.dup, 1) := by decide +kernel
theorem dX1_step_126 : decode cX1_step 126 = .ok (.getfield 55, 3) := by decide +kernel
theorem dX1_step_129 : decode cX1_step 129 = .ok (.iconst 1, 1) := by decide +kernel
theorem dX1_step_130 : decode cX1_step 130 = .ok (.iadd, 1) := by decide +kernel
theorem dX1_step_131 : decode cX1_step 131 = .ok (.putfield 55, 3) := by decide +kernel
theorem dX1_step_134 : decode cX1_step 134 = .ok (.iinc 3 1, 3) := by decide +kernel
theorem dX1_step_137 : decode cX1_step 137 = .ok (.goto (-114), 3) := by decide +kernel
theorem dX1_step_140 : decode cX1_step 140 = .ok (.aload_n 0, 1) := by decide +kernel
theorem dX1_step_141 : decode cX1_step 141 = .ok (.dup, 1) := by decide +kernel
theorem dX1_step_142 : decode cX1_step 142 = .ok (.getfield 113, 3) := by decide +kernel
theorem dX1_step_145 : decode cX1_step 145 = .ok (.iload_n 2, 1) := by decide +kernel
theorem dX1_step_146 : decode cX1_step 146 = .ok (.iadd, 1) := by decide +kernel
theorem dX1_step_147 : decode cX1_step 147 = .ok (.putfield 113, 3) := by decide +kernel
theorem dX1_step_150 : decode cX1_step 150 = .ok (.iload_n 2, 1) := by decide +kernel
theorem dX1_step_151 : decode cX1_step 151 = .ok (.ireturn, 1) := by decide +kernel
theorem dX1_time_0 : decode cX1_time 0 = .ok (.aload_n 0, 1) := by decide +kernel
theorem dX1_time_1 : decode cX1_time 1 = .ok (.iconst 0, 1) := by decide +kernel
theorem dX1_time_2 : decode cX1_time 2 = .ok (.putfield 42, 3) := by decide +kernel
theorem dX1_time_5 : decode cX1_time 5 = .ok (.aload_n 0, 1) := by decide +kernel
theorem dX1_time_6 : decode cX1_time 6 = .ok (.getfield 55, 3) := by decide +kernel
theorem dX1_time_9 : decode cX1_time 9 = .ok (.ireturn, 1) := by decide +kernel
theorem dX1_points_0 : decode cX1_points 0 = .ok (.aload_n 0, 1) := by decide +kernel
theorem dX1_points_1 : decode cX1_points 1 = .ok (.iconst 0, 1) := by decide +kernel
theorem dX1_points_2 : decode cX1_points 2 = .ok (.putfield 42, 3) := by decide +kernel
theorem dX1_points_5 : decode cX1_points 5 = .ok (.aload_n 0, 1) := by decide +kernel
theorem dX1_points_6 : decode cX1_points 6 = .ok (.getfield 49, 3) := by decide +kernel
theorem dX1_points_9 : decode cX1_points 9 = .ok (.ireturn, 1) := by decide +kernel
theorem dX1_taken_0 : decode cX1_taken 0 = .ok (.aload_n 0, 1) := by decide +kernel
theorem dX1_taken_1 : decode cX1_taken 1 = .ok (.iconst 0, 1) := by decide +kernel
theorem dX1_taken_2 : decode cX1_taken 2 = .ok (.putfield 42, 3) := by decide +kernel
theorem dX1_taken_5 : decode cX1_taken 5 = .ok (.aload_n 0, 1) := by decide +kernel
theorem dX1_taken_6 : decode cX1_taken 6 = .ok (.getfield 113, 3) := by decide +kernel
theorem dX1_taken_9 : decode cX1_taken 9 = .ok (.ireturn, 1) := by decide +kernel
theorem dX1_served_0 : decode cX1_served 0 = .ok (.aload_n 0, 1) := by decide +kernel
theorem dX1_served_1 : decode cX1_served 1 = .ok (.iconst 0, 1) := by decide +kernel
theorem dX1_served_2 : decode cX1_served 2 = .ok (.putfield 42, 3) := by decide +kernel
theorem dX1_served_5 : decode cX1_served 5 = .ok (.aload_n 0, 1) := by decide +kernel
theorem dX1_served_6 : decode cX1_served 6 = .ok (.getfield 79, 3) := by decide +kernel
theorem dX1_served_9 : decode cX1_served 9 = .ok (.ireturn, 1) := by decide +kernel
set_option maxRecDepth 20000 in
theorem ggX1_need_X1_isPoint : GoodIn wsX1_need wsX1_isPoint := goodIn_r _ [7, 8, 9, 10, 11, 6, 12, 13, 14, 15, 16, 17, 18, 19, 20, 21, 22, 23, 24, 25, 26, 27, 28] (by decide +kernel) (by decide +kernel)
set_option maxRecDepth 20000 in
theorem gX1_need_X1_isPoint : GoodIn wsX1_need (wsV RX1 72 RX1 yX1_isPoint wsX1_isPoint) := goodIn_app (goodIn_of _ (by decide +kernel)) ggX1_need_X1_isPoint
theorem dX1_need_0 : decode cX1_need 0 = .ok (.aload_n 0, 1) := by decide +kernel
theorem dX1_need_1 : decode cX1_need 1 = .ok (.iload_n 1, 1) := by decide +kernel
theorem dX1_need_2 : decode cX1_need 2 = .ok (.invokevirtual 72, 3) := by decide +kernel
theorem dX1_need_5 : decode cX1_need 5 = .ok (.ifCond .ne 7, 3) := by decide +kernel
theorem dX1_need_8 : decode cX1_need 8 = .ok (.iconst 0, 1) := by decide +kernel
theorem dX1_need_9 : decode cX1_need 9 = .ok (.goto 22, 3) := by decide +kernel
theorem dX1_need_12 : decode cX1_need 12 = .ok (.aload_n 0, 1) := by decide +kernel
theorem dX1_need_13 : decode cX1_need 13 = .ok (.getfield 16, 3) := by decide +kernel
theorem dX1_need_16 : decode cX1_need 16 = .ok (.iload_n 1, 1) := by decide +kernel
theorem dX1_need_17 : decode cX1_need 17 = .ok (.baload, 1) := by decide +kernel
theorem dX1_need_18 : decode cX1_need 18 = .ok (.ifCond .eq 12, 3) := by decide +kernel
theorem dX1_need_21 : decode cX1_need 21 = .ok (.aload_n 0, 1) := by decide +kernel
theorem dX1_need_22 : decode cX1_need 22 = .ok (.getfield 20, 3) := by decide +kernel
theorem dX1_need_25 : decode cX1_need 25 = .ok (.iload_n 1, 1) := by decide +kernel
theorem dX1_need_26 : decode cX1_need 26 = .ok (.iaload, 1) := by decide +kernel
theorem dX1_need_27 : decode cX1_need 27 = .ok (.goto 4, 3) := by decide +kernel
theorem dX1_need_30 : decode cX1_need 30 = .ok (.iconst (-1), 1) := by decide +kernel
theorem dX1_need_31 : decode cX1_need 31 = .ok (.ireturn, 1) := by decide +kernel
set_option maxRecDepth 20000 in
theorem ggX1_left_X1_isPoint : GoodIn wsX1_left wsX1_isPoint := goodIn_r _ [6, 7, 8, 9, 10, 5, 11, 18, 19, 20, 21, 22, 23, 24, 25, 26, 27, 28, 29, 30, 31, 32, 33] (by decide +kernel) (by decide +kernel)
set_option maxRecDepth 20000 in
theorem gX1_left_X1_isPoint : GoodIn wsX1_left (wsV RX1 72 RX1 yX1_isPoint wsX1_isPoint) := goodIn_app (goodIn_of _ (by decide +kernel)) ggX1_left_X1_isPoint
set_option maxRecDepth 20000 in
theorem ggX1_left_X1_stepsLeft : GoodIn wsX1_left wsX1_stepsLeft := goodIn_r _ [15, 16, 17, 18, 19, 20, 21, 22, 23, 24, 25, 26, 27, 28, 29, 30, 31, 32, 33] (by decide +kernel) (by decide +kernel)
set_option maxRecDepth 20000 in
theorem gX1_left_X1_stepsLeft : GoodIn wsX1_left (wsV RX1 58 RX1 yX1_stepsLeft wsX1_stepsLeft) := goodIn_app (goodIn_of _ (by decide +kernel)) ggX1_left_X1_stepsLeft
theorem dX1_left_0 : decode cX1_left 0 = .ok (.aload_n 0, 1) := by decide +kernel
theorem dX1_left_1 : decode cX1_left 1 = .ok (.iload_n 1, 1) := by decide +kernel
theorem dX1_left_2 : decode cX1_left 2 = .ok (.invokevirtual 72, 3) := by decide +kernel
theorem dX1_left_5 : decode cX1_left 5 = .ok (.ifCond .ne 7, 3) := by decide +kernel
theorem dX1_left_8 : decode cX1_left 8 = .ok (.iconst 0, 1) := by decide +kernel
theorem dX1_left_9 : decode cX1_left 9 = .ok (.goto 21, 3) := by decide +kernel
theorem dX1_left_12 : decode cX1_left 12 = .ok (.aload_n 0, 1) := by decide +kernel
theorem dX1_left_13 : decode cX1_left 13 = .ok (.getfield 16, 3) := by decide +kernel
theorem dX1_left_16 : decode cX1_left 16 = .ok (.iload_n 1, 1) := by decide +kernel
theorem dX1_left_17 : decode cX1_left 17 = .ok (.baload, 1) := by decide +kernel
theorem dX1_left_18 : decode cX1_left 18 = .ok (.ifCond .eq 11, 3) := by decide +kernel
theorem dX1_left_21 : decode cX1_left 21 = .ok (.aload_n 0, 1) := by decide +kernel
theorem dX1_left_22 : decode cX1_left 22 = .ok (.iload_n 1, 1) := by decide +kernel
theorem dX1_left_23 : decode cX1_left 23 = .ok (.invokevirtual 58, 3) := by decide +kernel
theorem dX1_left_26 : decode cX1_left 26 = .ok (.goto 4, 3) := by decide +kernel
theorem dX1_left_29 : decode cX1_left 29 = .ok (.iconst (-1), 1) := by decide +kernel
theorem dX1_left_30 : decode cX1_left 30 = .ok (.ireturn, 1) := by decide +kernel
set_option maxRecDepth 20000 in
theorem ggX1_laxity_X1_isPoint : GoodIn wsX1_laxity wsX1_isPoint := goodIn_r _ [7, 8, 2, 9, 10, 6, 11, 37, 38, 39, 40, 41, 42, 43, 44, 45, 46, 47, 48, 49, 50, 51, 52] (by decide +kernel) (by decide +kernel)
set_option maxRecDepth 20000 in
theorem gX1_laxity_X1_isPoint : GoodIn wsX1_laxity (wsV RX1 72 RX1 yX1_isPoint wsX1_isPoint) := goodIn_app (goodIn_of _ (by decide +kernel)) ggX1_laxity_X1_isPoint
set_option maxRecDepth 20000 in
theorem ggX1_laxity_X1_lax : GoodIn wsX1_laxity wsX1_lax := goodIn_r _ [15, 16, 17, 18, 19, 6, 20, 21, 22, 23, 24, 25, 26, 27, 28, 29, 30, 31, 32, 33, 34, 35, 36, 37, 38, 39, 40, 41, 42, 43, 44, 45, 46, 47, 48, 49, 50, 51, 52] (by decide +kernel) (by decide +kernel)
set_option maxRecDepth 20000 in
theorem gX1_laxity_X1_lax : GoodIn wsX1_laxity (wsV RX1 76 RX1 yX1_lax wsX1_lax) := goodIn_app (goodIn_of _ (by decide +kernel)) ggX1_laxity_X1_lax
theorem dX1_laxity_0 : decode cX1_laxity 0 = .ok (.aload_n 0, 1) := by decide +kernel
theorem dX1_laxity_1 : decode cX1_laxity 1 = .ok (.iload_n 1, 1) := by decide +kernel
theorem dX1_laxity_2 : decode cX1_laxity 2 = .ok (.invokevirtual 72, 3) := by decide +kernel
theorem dX1_laxity_5 : decode cX1_laxity 5 = .ok (.ifCond .ne 5, 3) := by decide +kernel
theorem dX1_laxity_8 : decode cX1_laxity 8 = .ok (.iconst 0, 1) := by decide +kernel
theorem dX1_laxity_9 : decode cX1_laxity 9 = .ok (.ireturn, 1) := by decide +kernel
theorem dX1_laxity_10 : decode cX1_laxity 10 = .ok (.aload_n 0, 1) := by decide +kernel
theorem dX1_laxity_11 : decode cX1_laxity 11 = .ok (.aload_n 0, 1) := by decide +kernel
theorem dX1_laxity_12 : decode cX1_laxity 12 = .ok (.getfield 16, 3) := by decide +kernel
theorem dX1_laxity_15 : decode cX1_laxity 15 = .ok (.iload_n 1, 1) := by decide +kernel
theorem dX1_laxity_16 : decode cX1_laxity 16 = .ok (.baload, 1) := by decide +kernel
theorem dX1_laxity_17 : decode cX1_laxity 17 = .ok (.ifCond .eq 7, 3) := by decide +kernel
theorem dX1_laxity_20 : decode cX1_laxity 20 = .ok (.iconst 0, 1) := by decide +kernel
theorem dX1_laxity_21 : decode cX1_laxity 21 = .ok (.goto 4, 3) := by decide +kernel
theorem dX1_laxity_24 : decode cX1_laxity 24 = .ok (.iconst 2, 1) := by decide +kernel
theorem dX1_laxity_25 : decode cX1_laxity 25 = .ok (.putfield 42, 3) := by decide +kernel
theorem dX1_laxity_28 : decode cX1_laxity 28 = .ok (.aload_n 0, 1) := by decide +kernel
theorem dX1_laxity_29 : decode cX1_laxity 29 = .ok (.getfield 42, 3) := by decide +kernel
theorem dX1_laxity_32 : decode cX1_laxity 32 = .ok (.ifCond .le 7, 3) := by decide +kernel
theorem dX1_laxity_35 : decode cX1_laxity 35 = .ok (.iconst 0, 1) := by decide +kernel
theorem dX1_laxity_36 : decode cX1_laxity 36 = .ok (.goto 8, 3) := by decide +kernel
theorem dX1_laxity_39 : decode cX1_laxity 39 = .ok (.aload_n 0, 1) := by decide +kernel
theorem dX1_laxity_40 : decode cX1_laxity 40 = .ok (.iload_n 1, 1) := by decide +kernel
theorem dX1_laxity_41 : decode cX1_laxity 41 = .ok (.invokevirtual 76, 3) := by decide +kernel
theorem dX1_laxity_44 : decode cX1_laxity 44 = .ok (.ireturn, 1) := by decide +kernel
set_option maxRecDepth 20000 in
theorem ggX1_reach_X1_isPoint : GoodIn wsX1_reach wsX1_isPoint := goodIn_r _ [5, 6, 7, 8, 9, 4, 10, 37, 38, 39, 40, 41, 42, 43, 44, 45, 46, 47, 48, 49, 50, 51, 52] (by decide +kernel) (by decide +kernel)
set_option maxRecDepth 20000 in
theorem gX1_reach_X1_isPoint : GoodIn wsX1_reach (wsV RX1 72 RX1 yX1_isPoint wsX1_isPoint) := goodIn_app (goodIn_of _ (by decide +kernel)) ggX1_reach_X1_isPoint
set_option maxRecDepth 20000 in
theorem ggX1_reach_X1_reaches : GoodIn wsX1_reach wsX1_reaches := goodIn_r _ [14, 15, 16, 17, 18, 19, 4, 20, 21, 22, 23, 24, 25, 26, 27, 28, 29, 30, 31, 32, 33, 34, 35, 36, 37, 38, 39, 40, 41, 42, 43, 44, 45, 46, 47, 48, 49, 50, 51, 52] (by decide +kernel) (by decide +kernel)
set_option maxRecDepth 20000 in
theorem gX1_reach_X1_reaches : GoodIn wsX1_reach (wsV RX1 85 RX1 yX1_reaches wsX1_reaches) := goodIn_app (goodIn_of _ (by decide +kernel)) ggX1_reach_X1_reaches
theorem dX1_reach_0 : decode cX1_reach 0 = .ok (.aload_n 0, 1) := by decide +kernel
theorem dX1_reach_1 : decode cX1_reach 1 = .ok (.iload_n 1, 1) := by decide +kernel
theorem dX1_reach_2 : decode cX1_reach 2 = .ok (.invokevirtual 72, 3) := by decide +kernel
theorem dX1_reach_5 : decode cX1_reach 5 = .ok (.ifCond .eq 11, 3) := by decide +kernel
theorem dX1_reach_8 : decode cX1_reach 8 = .ok (.aload_n 0, 1) := by decide +kernel
theorem dX1_reach_9 : decode cX1_reach 9 = .ok (.iload_n 1, 1) := by decide +kernel
theorem dX1_reach_10 : decode cX1_reach 10 = .ok (.invokevirtual 85, 3) := by decide +kernel
theorem dX1_reach_13 : decode cX1_reach 13 = .ok (.goto 4, 3) := by decide +kernel
theorem dX1_reach_16 : decode cX1_reach 16 = .ok (.iconst 0, 1) := by decide +kernel
theorem dX1_reach_17 : decode cX1_reach 17 = .ok (.ireturn, 1) := by decide +kernel
set_option maxRecDepth 20000 in
theorem ggX1_current_X1_isPoint : GoodIn wsX1_current wsX1_isPoint := goodIn_r _ [6, 7, 8, 9, 10, 5, 11, 82, 83, 84, 85, 86, 87, 88, 89, 90, 91, 92, 93, 94, 95, 96, 97] (by decide +kernel) (by decide +kernel)
set_option maxRecDepth 20000 in
theorem gX1_current_X1_isPoint : GoodIn wsX1_current (wsV RX1 72 RX1 yX1_isPoint wsX1_isPoint) := goodIn_app (goodIn_of _ (by decide +kernel)) ggX1_current_X1_isPoint
set_option maxRecDepth 20000 in
theorem ggX1_current_X1_shares : GoodIn wsX1_current wsX1_shares := goodIn_r _ [15, 1, 16, 17, 18, 19, 20, 21, 5, 22, 7, 23, 24, 25, 26, 27, 28, 29, 30, 31, 32, 33, 34, 35, 36, 37, 38, 39, 40, 41, 42, 43, 44, 45, 46, 47, 48, 49, 50, 51, 52, 53, 54, 55, 56, 57, 58, 59, 60, 61, 62, 63, 64, 65, 66, 67, 68, 69, 70, 71, 72, 73, 74, 75, 76, 77, 78, 79, 80, 81, 82, 83, 84, 85, 86, 87, 88, 89, 90, 91, 92, 93, 94, 95, 96, 97] (by decide +kernel) (by decide +kernel)
set_option maxRecDepth 20000 in
theorem gX1_current_X1_shares : GoodIn wsX1_current (wsV RX1 110 RX1 yX1_shares wsX1_shares) := goodIn_app (goodIn_of _ (by decide +kernel)) ggX1_current_X1_shares
theorem dX1_current_0 : decode cX1_current 0 = .ok (.aload_n 0, 1) := by decide +kernel
theorem dX1_current_1 : decode cX1_current 1 = .ok (.iload_n 1, 1) := by decide +kernel
theorem dX1_current_2 : decode cX1_current 2 = .ok (.invokevirtual 72, 3) := by decide +kernel
theorem dX1_current_5 : decode cX1_current 5 = .ok (.ifCond .ne 5, 3) := by decide +kernel
theorem dX1_current_8 : decode cX1_current 8 = .ok (.iconst 0, 1) := by decide +kernel
theorem dX1_current_9 : decode cX1_current 9 = .ok (.ireturn, 1) := by decide +kernel
theorem dX1_current_10 : decode cX1_current 10 = .ok (.aload_n 0, 1) := by decide +kernel
theorem dX1_current_11 : decode cX1_current 11 = .ok (.invokevirtual 110, 3) := by decide +kernel
theorem dX1_current_14 : decode cX1_current 14 = .ok (.aload_n 0, 1) := by decide +kernel
theorem dX1_current_15 : decode cX1_current 15 = .ok (.getfield 36, 3) := by decide +kernel
theorem dX1_current_18 : decode cX1_current 18 = .ok (.iload_n 1, 1) := by decide +kernel
theorem dX1_current_19 : decode cX1_current 19 = .ok (.iaload, 1) := by decide +kernel
theorem dX1_current_20 : decode cX1_current 20 = .ok (.ireturn, 1) := by decide +kernel
set_option maxRecDepth 20000 in
theorem ggX1_load_X1_isIn : GoodIn wsX1_load wsX1_isIn := goodIn_r _ [5] (by decide +kernel) (by decide +kernel)
set_option maxRecDepth 20000 in
theorem gX1_load_X1_isIn : GoodIn wsX1_load (va_wsS RX1 45 yX1_isIn wsX1_isIn) := goodIn_app (goodIn_of _ (by decide +kernel)) ggX1_load_X1_isIn
set_option maxRecDepth 20000 in
theorem ggX1_load_X1_shares : GoodIn wsX1_load wsX1_shares := goodIn_r _ [9, 10, 11, 12, 13, 14, 15, 16, 4, 17, 18, 19, 20, 21, 22, 23, 24, 25, 26, 27, 28, 29, 30, 31, 32, 33, 34, 35, 36, 37, 38, 39, 40, 41, 42, 43, 44, 45, 46, 47, 48, 49, 50, 51, 52, 53, 54, 55, 56, 57, 58, 59, 60, 61, 62, 63, 64, 65, 66, 67, 68, 69, 70, 71, 72, 73, 74, 75, 76, 77, 78, 79, 80, 81, 82, 83, 84, 85, 86, 87, 88, 89, 90, 91, 92, 93] (by decide +kernel) (by decide +kernel)
set_option maxRecDepth 20000 in
theorem gX1_load_X1_shares : GoodIn wsX1_load (wsV RX1 110 RX1 yX1_shares wsX1_shares) := goodIn_app (goodIn_of _ (by decide +kernel)) ggX1_load_X1_shares
set_option maxRecDepth 20000 in
theorem ggX1_load_X1_flows : GoodIn wsX1_load wsX1_flows := goodIn_r _ [61, 18, 29, 10, 78, 79, 80, 81, 82, 83, 84, 85, 86, 87, 88, 89, 90, 91, 92, 93] (by decide +kernel) (by decide +kernel)
set_option maxRecDepth 20000 in
theorem gX1_load_X1_flows : GoodIn wsX1_load (wsV RX1 82 RX1 yX1_flows wsX1_flows) := goodIn_app (goodIn_of _ (by decide +kernel)) ggX1_load_X1_flows
theorem dX1_load_0 : decode cX1_load 0 = .ok (.aload_n 0, 1) := by decide +kernel
theorem dX1_load_1 : decode cX1_load 1 = .ok (.iload_n 1, 1) := by decide +kernel
theorem dX1_load_2 : decode cX1_load 2 = .ok (.iconst 0, 1) := by decide +kernel
theorem dX1_load_3 : decode cX1_load 3 = .ok (.iconst 2, 1) := by decide +kernel
theorem dX1_load_4 : decode cX1_load 4 = .ok (.invokestatic 45, 3) := by decide +kernel
theorem dX1_load_7 : decode cX1_load 7 = .ok (.ifCond .eq 7, 3) := by decide +kernel
theorem dX1_load_10 : decode cX1_load 10 = .ok (.iconst 0, 1) := by decide +kernel
theorem dX1_load_11 : decode cX1_load 11 = .ok (.goto 4, 3) := by decide +kernel
theorem dX1_load_14 : decode cX1_load 14 = .ok (.iconst 1, 1) := by decide +kernel
theorem dX1_load_15 : decode cX1_load 15 = .ok (.putfield 42, 3) := by decide +kernel
theorem dX1_load_18 : decode cX1_load 18 = .ok (.aload_n 0, 1) := by decide +kernel
theorem dX1_load_19 : decode cX1_load 19 = .ok (.getfield 42, 3) := by decide +kernel
theorem dX1_load_22 : decode cX1_load 22 = .ok (.ifCond .le 5, 3) := by decide +kernel
theorem dX1_load_25 : decode cX1_load 25 = .ok (.iconst 0, 1) := by decide +kernel
theorem dX1_load_26 : decode cX1_load 26 = .ok (.ireturn, 1) := by decide +kernel
theorem dX1_load_27 : decode cX1_load 27 = .ok (.aload_n 0, 1) := by decide +kernel
theorem dX1_load_28 : decode cX1_load 28 = .ok (.invokevirtual 110, 3) := by decide +kernel
theorem dX1_load_31 : decode cX1_load 31 = .ok (.aload_n 0, 1) := by decide +kernel
theorem dX1_load_32 : decode cX1_load 32 = .ok (.iload_n 1, 1) := by decide +kernel
theorem dX1_load_33 : decode cX1_load 33 = .ok (.invokevirtual 82, 3) := by decide +kernel
theorem dX1_load_36 : decode cX1_load 36 = .ok (.ireturn, 1) := by decide +kernel
set_option maxRecDepth 20000 in
theorem ggX1_imbalance_X1_shares : GoodIn wsX1_imbalance wsX1_shares := goodIn_r _ [6, 7, 8, 9, 10, 11, 12, 13, 5, 14, 15, 16, 17, 18, 19, 20, 21, 22, 23, 24, 25, 26, 27, 28, 29, 30, 31, 32, 33, 34, 35, 36, 37, 38, 39, 40, 41, 42, 43, 44, 45, 46, 47, 48, 49, 50, 51, 52, 53, 54, 55, 56, 57, 58, 59, 60, 61, 62, 63, 64, 65, 66, 67, 68, 69, 70, 71, 72, 73, 74, 75, 76, 77, 78, 79, 80, 81, 82, 83, 84, 85, 86, 87, 88, 89, 90] (by decide +kernel) (by decide +kernel)
set_option maxRecDepth 20000 in
theorem gX1_imbalance_X1_shares : GoodIn wsX1_imbalance (wsV RX1 110 RX1 yX1_shares wsX1_shares) := goodIn_app (goodIn_of _ (by decide +kernel)) ggX1_imbalance_X1_shares
set_option maxRecDepth 20000 in
theorem ggX1_imbalance_X1_apart : GoodIn wsX1_imbalance wsX1_apart := goodIn_r _ [66, 55, 56, 57, 5, 58, 15, 26, 7, 67, 68, 69, 70, 75, 76, 77, 78, 79, 80, 81, 82, 83, 84, 85, 86, 87, 88, 89, 90] (by decide +kernel) (by decide +kernel)
set_option maxRecDepth 20000 in
theorem gX1_imbalance_X1_apart : GoodIn wsX1_imbalance (wsV RX1 104 RX1 yX1_apart wsX1_apart) := goodIn_app (goodIn_of _ (by decide +kernel)) ggX1_imbalance_X1_apart
theorem dX1_imbalance_0 : decode cX1_imbalance 0 = .ok (.aload_n 0, 1) := by decide +kernel
theorem dX1_imbalance_1 : decode cX1_imbalance 1 = .ok (.iconst 0, 1) := by decide +kernel
theorem dX1_imbalance_2 : decode cX1_imbalance 2 = .ok (.putfield 42, 3) := by decide +kernel
theorem dX1_imbalance_5 : decode cX1_imbalance 5 = .ok (.aload_n 0, 1) := by decide +kernel
theorem dX1_imbalance_6 : decode cX1_imbalance 6 = .ok (.invokevirtual 110, 3) := by decide +kernel
theorem dX1_imbalance_9 : decode cX1_imbalance 9 = .ok (.aload_n 0, 1) := by decide +kernel
theorem dX1_imbalance_10 : decode cX1_imbalance 10 = .ok (.invokevirtual 104, 3) := by decide +kernel
theorem dX1_imbalance_13 : decode cX1_imbalance 13 = .ok (.ireturn, 1) := by decide +kernel
set_option maxRecDepth 20000 in
theorem ggX1_held_X1_shares : GoodIn wsX1_held wsX1_shares := goodIn_r _ [8, 3, 9, 10, 11, 12, 13, 14, 7, 15, 2, 16, 17, 18, 19, 20, 21, 22, 23, 24, 25, 26, 27, 28, 29, 30, 31, 32, 33, 34, 35, 36, 37, 38, 39, 40, 41, 42, 43, 44, 45, 46, 47, 48, 49, 50, 51, 52, 53, 54, 55, 56, 57, 58, 59, 60, 61, 62, 63, 64, 65, 66, 67, 68, 69, 70, 71, 72, 73, 74, 75, 76, 77, 78, 79, 80, 81, 82, 83, 84, 85, 86, 87, 88, 89, 90] (by decide +kernel) (by decide +kernel)
set_option maxRecDepth 20000 in
theorem gX1_held_X1_shares : GoodIn wsX1_held (wsV RX1 110 RX1 yX1_shares wsX1_shares) := goodIn_app (goodIn_of _ (by decide +kernel)) ggX1_held_X1_shares
set_option maxRecDepth 20000 in
theorem ggX1_held_X1_reaches : GoodIn wsX1_held wsX1_reaches := goodIn_r _ [19, 20, 21, 22, 23, 24, 7, 25, 26, 27, 28, 29, 30, 31, 32, 33, 34, 35, 36, 37, 38, 39, 40, 41, 75, 76, 77, 78, 79, 80, 81, 82, 83, 84, 85, 86, 87, 88, 89, 90] (by decide +kernel) (by decide +kernel)
set_option maxRecDepth 20000 in
theorem gX1_held_X1_reaches : GoodIn wsX1_held (wsV RX1 85 RX1 yX1_reaches wsX1_reaches) := goodIn_app (goodIn_of _ (by decide +kernel)) ggX1_held_X1_reaches
theorem dX1_held_0 : decode cX1_held 0 = .ok (.aload_n 0, 1) := by decide +kernel
theorem dX1_held_1 : decode cX1_held 1 = .ok (.iconst 0, 1) := by decide +kernel
theorem dX1_held_2 : decode cX1_held 2 = .ok (.putfield 42, 3) := by decide +kernel
theorem dX1_held_5 : decode cX1_held 5 = .ok (.aload_n 0, 1) := by decide +kernel
theorem dX1_held_6 : decode cX1_held 6 = .ok (.invokevirtual 110, 3) := by decide +kernel
theorem dX1_held_9 : decode cX1_held 9 = .ok (.iconst 0, 1) := by decide +kernel
theorem dX1_held_10 : decode cX1_held 10 = .ok (.istore_n 1, 1) := by decide +kernel
theorem dX1_held_11 : decode cX1_held 11 = .ok (.iconst 0, 1) := by decide +kernel
theorem dX1_held_12 : decode cX1_held 12 = .ok (.istore_n 2, 1) := by decide +kernel
theorem dX1_held_13 : decode cX1_held 13 = .ok (.iload_n 2, 1) := by decide +kernel
theorem dX1_held_14 : decode cX1_held 14 = .ok (.aload_n 0, 1) := by decide +kernel
theorem dX1_held_15 : decode cX1_held 15 = .ok (.getfield 49, 3) := by decide +kernel
theorem dX1_held_18 : decode cX1_held 18 = .ok (.if_icmp .ge 33, 3) := by decide +kernel
theorem dX1_held_21 : decode cX1_held 21 = .ok (.iload_n 1, 1) := by decide +kernel
theorem dX1_held_22 : decode cX1_held 22 = .ok (.aload_n 0, 1) := by decide +kernel
theorem dX1_held_23 : decode cX1_held 23 = .ok (.getfield 36, 3) := by decide +kernel
theorem dX1_held_26 : decode cX1_held 26 = .ok (.iload_n 2, 1) := by decide +kernel
theorem dX1_held_27 : decode cX1_held 27 = .ok (.iaload, 1) := by decide +kernel
theorem dX1_held_28 : decode cX1_held 28 = .ok (.aload_n 0, 1) := by decide +kernel
theorem dX1_held_29 : decode cX1_held 29 = .ok (.iload_n 2, 1) := by decide +kernel
theorem dX1_held_30 : decode cX1_held 30 = .ok (.invokevirtual 85, 3) := by decide +kernel
theorem dX1_held_33 : decode cX1_held 33 = .ok (.if_icmp .ge 9, 3) := by decide +kernel
theorem dX1_held_36 : decode cX1_held 36 = .ok (.iconst 1, 1) := by decide +kernel
theorem dX1_held_37 : decode cX1_held 37 = .ok (.iload_n 2, 1) := by decide +kernel
theorem dX1_held_38 : decode cX1_held 38 = .ok (.ishl, 1) := by decide +kernel
theorem dX1_held_39 : decode cX1_held 39 = .ok (.goto 4, 3) := by decide +kernel
theorem dX1_held_42 : decode cX1_held 42 = .ok (.iconst 0, 1) := by decide +kernel
theorem dX1_held_43 : decode cX1_held 43 = .ok (.ior, 1) := by decide +kernel
theorem dX1_held_44 : decode cX1_held 44 = .ok (.istore_n 1, 1) := by decide +kernel
theorem dX1_held_45 : decode cX1_held 45 = .ok (.iinc 2 1, 3) := by decide +kernel
theorem dX1_held_48 : decode cX1_held 48 = .ok (.goto (-35), 3) := by decide +kernel
theorem dX1_held_51 : decode cX1_held 51 = .ok (.iload_n 1, 1) := by decide +kernel
theorem dX1_held_52 : decode cX1_held 52 = .ok (.ireturn, 1) := by decide +kernel
set_option maxRecDepth 20000 in
theorem ggX1_fairLevel_X1_isIn : GoodIn wsX1_fairLevel wsX1_isIn := goodIn_r _ [9] (by decide +kernel) (by decide +kernel)
set_option maxRecDepth 20000 in
theorem gX1_fairLevel_X1_isIn : GoodIn wsX1_fairLevel (va_wsS RX1 45 yX1_isIn wsX1_isIn) := goodIn_app (goodIn_of _ (by decide +kernel)) ggX1_fairLevel_X1_isIn
set_option maxRecDepth 20000 in
theorem ggX1_fairLevel_X1_shares : GoodIn wsX1_fairLevel wsX1_shares := goodIn_r _ [13, 5, 14, 15, 16, 17, 18, 19, 8, 20, 3, 21, 22, 23, 24, 25, 26, 27, 28, 29, 30, 4, 31, 32, 33, 34, 35, 36, 37, 38, 39, 40, 41, 42, 43, 44, 45, 46, 47, 48, 49, 50, 51, 52, 53, 54, 55, 56, 57, 2, 58, 59, 60, 61, 62, 63, 64, 65, 66, 67, 68, 69, 70, 71, 72, 73, 74, 75, 76, 77, 78, 79, 80, 81, 82, 83, 84, 85, 86, 87, 88, 89, 90, 91, 92, 93] (by decide +kernel) (by decide +kernel)
set_option maxRecDepth 20000 in
theorem gX1_fairLevel_X1_shares : GoodIn wsX1_fairLevel (wsV RX1 110 RX1 yX1_shares wsX1_shares) := goodIn_app (goodIn_of _ (by decide +kernel)) ggX1_fairLevel_X1_shares
set_option maxRecDepth 20000 in
theorem ggX1_fairLevel_X1_reaches : GoodIn wsX1_fairLevel wsX1_reaches := goodIn_r _ [24, 25, 26, 27, 28, 29, 8, 30, 4, 31, 32, 33, 34, 35, 36, 37, 38, 39, 40, 41, 42, 43, 44, 45, 78, 79, 80, 81, 82, 83, 84, 85, 86, 87, 88, 89, 90, 91, 92, 93] (by decide +kernel) (by decide +kernel)
set_option maxRecDepth 20000 in
theorem gX1_fairLevel_X1_reaches : GoodIn wsX1_fairLevel (wsV RX1 85 RX1 yX1_reaches wsX1_reaches) := goodIn_app (goodIn_of _ (by decide +kernel)) ggX1_fairLevel_X1_reaches
theorem dX1_fairLevel_0 : decode cX1_fairLevel 0 = .ok (.aload_n 0, 1) := by decide +kernel
theorem dX1_fairLevel_1 : decode cX1_fairLevel 1 = .ok (.iload_n 1, 1) := by decide +kernel
theorem dX1_fairLevel_2 : decode cX1_fairLevel 2 = .ok (.iconst 0, 1) := by decide +kernel
theorem dX1_fairLevel_3 : decode cX1_fairLevel 3 = .ok (.iconst 2, 1) := by decide +kernel
theorem dX1_fairLevel_4 : decode cX1_fairLevel 4 = .ok (.invokestatic 45, 3) := by decide +kernel
theorem dX1_fairLevel_7 : decode cX1_fairLevel 7 = .ok (.ifCond .eq 7, 3) := by decide +kernel
theorem dX1_fairLevel_10 : decode cX1_fairLevel 10 = .ok (.iconst 0, 1) := by decide +kernel
theorem dX1_fairLevel_11 : decode cX1_fairLevel 11 = .ok (.goto 4, 3) := by decide +kernel
theorem dX1_fairLevel_14 : decode cX1_fairLevel 14 = .ok (.iconst 1, 1) := by decide +kernel
theorem dX1_fairLevel_15 : decode cX1_fairLevel 15 = .ok (.putfield 42, 3) := by decide +kernel
theorem dX1_fairLevel_18 : decode cX1_fairLevel 18 = .ok (.aload_n 0, 1) := by decide +kernel
theorem dX1_fairLevel_19 : decode cX1_fairLevel 19 = .ok (.getfield 42, 3) := by decide +kernel
theorem dX1_fairLevel_22 : decode cX1_fairLevel 22 = .ok (.ifCond .le 5, 3) := by decide +kernel
theorem dX1_fairLevel_25 : decode cX1_fairLevel 25 = .ok (.iconst 0, 1) := by decide +kernel
theorem dX1_fairLevel_26 : decode cX1_fairLevel 26 = .ok (.ireturn, 1) := by decide +kernel
theorem dX1_fairLevel_27 : decode cX1_fairLevel 27 = .ok (.aload_n 0, 1) := by decide +kernel
theorem dX1_fairLevel_28 : decode cX1_fairLevel 28 = .ok (.invokevirtual 110, 3) := by decide +kernel
theorem dX1_fairLevel_31 : decode cX1_fairLevel 31 = .ok (.aload_n 0, 1) := by decide +kernel
theorem dX1_fairLevel_32 : decode cX1_fairLevel 32 = .ok (.getfield 29, 3) := by decide +kernel
theorem dX1_fairLevel_35 : decode cX1_fairLevel 35 = .ok (.iload_n 1, 1) := by decide +kernel
theorem dX1_fairLevel_36 : decode cX1_fairLevel 36 = .ok (.iaload, 1) := by decide +kernel
theorem dX1_fairLevel_37 : decode cX1_fairLevel 37 = .ok (.istore_n 2, 1) := by decide +kernel
theorem dX1_fairLevel_38 : decode cX1_fairLevel 38 = .ok (.iconst 0, 1) := by decide +kernel
theorem dX1_fairLevel_39 : decode cX1_fairLevel 39 = .ok (.istore_n 3, 1) := by decide +kernel
theorem dX1_fairLevel_40 : decode cX1_fairLevel 40 = .ok (.iconst 0, 1) := by decide +kernel
theorem dX1_fairLevel_41 : decode cX1_fairLevel 41 = .ok (.istore 4, 2) := by decide +kernel
theorem dX1_fairLevel_43 : decode cX1_fairLevel 43 = .ok (.iconst 0, 1) := by decide +kernel
theorem dX1_fairLevel_44 : decode cX1_fairLevel 44 = .ok (.istore 5, 2) := by decide +kernel
theorem dX1_fairLevel_46 : decode cX1_fairLevel 46 = .ok (.iload 5, 2) := by decide +kernel
theorem dX1_fairLevel_48 : decode cX1_fairLevel 48 = .ok (.aload_n 0, 1) := by decide +kernel
theorem dX1_fairLevel_49 : decode cX1_fairLevel 49 = .ok (.getfield 49, 3) := by decide +kernel
theorem dX1_fairLevel_52 : decode cX1_fairLevel 52 = .ok (.if_icmp .ge 88, 3) := by decide +kernel
theorem dX1_fairLevel_55 : decode cX1_fairLevel 55 = .ok (.iload_n 2, 1) := by decide +kernel
theorem dX1_fairLevel_56 : decode cX1_fairLevel 56 = .ok (.aload_n 0, 1) := by decide +kernel
theorem dX1_fairLevel_57 : decode cX1_fairLevel 57 = .ok (.getfield 7, 3) := by decide +kernel
theorem dX1_fairLevel_60 : decode cX1_fairLevel 60 = .ok (.iload 5, 2) := by decide +kernel
theorem dX1_fairLevel_62 : decode cX1_fairLevel 62 = .ok (.iaload, 1) := by decide +kernel
theorem dX1_fairLevel_63 : decode cX1_fairLevel 63 = .ok (.iconst 3, 1) := by decide +kernel
theorem dX1_fairLevel_64 : decode cX1_fairLevel 64 = .ok (.if_icmp .ne 13, 3) := by decide +kernel
theorem dX1_fairLevel_67 : decode cX1_fairLevel 67 = .ok (.aload_n 0, 1) := by decide +kernel
theorem dX1_fairLevel_68 : decode cX1_fairLevel 68 = .ok (.getfield 36, 3) := by decide +kernel
theorem dX1_fairLevel_71 : decode cX1_fairLevel 71 = .ok (.iload 5, 2) := by decide +kernel
theorem dX1_fairLevel_73 : decode cX1_fairLevel 73 = .ok (.iaload, 1) := by decide +kernel
theorem dX1_fairLevel_74 : decode cX1_fairLevel 74 = .ok (.goto 4, 3) := by decide +kernel
theorem dX1_fairLevel_77 : decode cX1_fairLevel 77 = .ok (.iconst 0, 1) := by decide +kernel
theorem dX1_fairLevel_78 : decode cX1_fairLevel 78 = .ok (.isub, 1) := by decide +kernel
theorem dX1_fairLevel_79 : decode cX1_fairLevel 79 = .ok (.istore_n 2, 1) := by decide +kernel
theorem dX1_fairLevel_80 : decode cX1_fairLevel 80 = .ok (.iload_n 3, 1) := by decide +kernel
theorem dX1_fairLevel_81 : decode cX1_fairLevel 81 = .ok (.aload_n 0, 1) := by decide +kernel
theorem dX1_fairLevel_82 : decode cX1_fairLevel 82 = .ok (.getfield 7, 3) := by decide +kernel
theorem dX1_fairLevel_85 : decode cX1_fairLevel 85 = .ok (.iload 5, 2) := by decide +kernel
theorem dX1_fairLevel_87 : decode cX1_fairLevel 87 = .ok (.iaload, 1) := by decide +kernel
theorem dX1_fairLevel_88 : decode cX1_fairLevel 88 = .ok (.iload_n 1, 1) := by decide +kernel
theorem dX1_fairLevel_89 : decode cX1_fairLevel 89 = .ok (.if_icmp .ne 12, 3) := by decide +kernel
theorem dX1_fairLevel_92 : decode cX1_fairLevel 92 = .ok (.aload_n 0, 1) := by decide +kernel
theorem dX1_fairLevel_93 : decode cX1_fairLevel 93 = .ok (.iload 5, 2) := by decide +kernel
theorem dX1_fairLevel_95 : decode cX1_fairLevel 95 = .ok (.invokevirtual 85, 3) := by decide +kernel
theorem dX1_fairLevel_98 : decode cX1_fairLevel 98 = .ok (.goto 4, 3) := by decide +kernel
theorem dX1_fairLevel_101 : decode cX1_fairLevel 101 = .ok (.iconst 0, 1) := by decide +kernel
theorem dX1_fairLevel_102 : decode cX1_fairLevel 102 = .ok (.iadd, 1) := by decide +kernel
theorem dX1_fairLevel_103 : decode cX1_fairLevel 103 = .ok (.istore_n 3, 1) := by decide +kernel
theorem dX1_fairLevel_104 : decode cX1_fairLevel 104 = .ok (.iload 4, 2) := by decide +kernel
theorem dX1_fairLevel_106 : decode cX1_fairLevel 106 = .ok (.aload_n 0, 1) := by decide +kernel
theorem dX1_fairLevel_107 : decode cX1_fairLevel 107 = .ok (.getfield 7, 3) := by decide +kernel
theorem dX1_fairLevel_110 : decode cX1_fairLevel 110 = .ok (.iload 5, 2) := by decide +kernel
theorem dX1_fairLevel_112 : decode cX1_fairLevel 112 = .ok (.iaload, 1) := by decide +kernel
theorem dX1_fairLevel_113 : decode cX1_fairLevel 113 = .ok (.iload_n 1, 1) := by decide +kernel
theorem dX1_fairLevel_114 : decode cX1_fairLevel 114 = .ok (.if_icmp .ne 16, 3) := by decide +kernel
theorem dX1_fairLevel_117 : decode cX1_fairLevel 117 = .ok (.aload_n 0, 1) := by decide +kernel
theorem dX1_fairLevel_118 : decode cX1_fairLevel 118 = .ok (.iload 5, 2) := by decide +kernel
theorem dX1_fairLevel_120 : decode cX1_fairLevel 120 = .ok (.invokevirtual 85, 3) := by decide +kernel
theorem dX1_fairLevel_123 : decode cX1_fairLevel 123 = .ok (.ifCond .le 7, 3) := by decide +kernel
theorem dX1_fairLevel_126 : decode cX1_fairLevel 126 = .ok (.iconst 1, 1) := by decide +kernel
theorem dX1_fairLevel_127 : decode cX1_fairLevel 127 = .ok (.goto 4, 3) := by decide +kernel
theorem dX1_fairLevel_130 : decode cX1_fairLevel 130 = .ok (.iconst 0, 1) := by decide +kernel
theorem dX1_fairLevel_131 : decode cX1_fairLevel 131 = .ok (.iadd, 1) := by decide +kernel
theorem dX1_fairLevel_132 : decode cX1_fairLevel 132 = .ok (.istore 4, 2) := by decide +kernel
theorem dX1_fairLevel_134 : decode cX1_fairLevel 134 = .ok (.iinc 5 1, 3) := by decide +kernel
theorem dX1_fairLevel_137 : decode cX1_fairLevel 137 = .ok (.goto (-91), 3) := by decide +kernel
theorem dX1_fairLevel_140 : decode cX1_fairLevel 140 = .ok (.iload_n 3, 1) := by decide +kernel
theorem dX1_fairLevel_141 : decode cX1_fairLevel 141 = .ok (.iload_n 2, 1) := by decide +kernel
theorem dX1_fairLevel_142 : decode cX1_fairLevel 142 = .ok (.if_icmp .gt 5, 3) := by decide +kernel
theorem dX1_fairLevel_145 : decode cX1_fairLevel 145 = .ok (.iconst (-1), 1) := by decide +kernel
theorem dX1_fairLevel_146 : decode cX1_fairLevel 146 = .ok (.ireturn, 1) := by decide +kernel
theorem dX1_fairLevel_147 : decode cX1_fairLevel 147 = .ok (.iconst 1, 1) := by decide +kernel
theorem dX1_fairLevel_148 : decode cX1_fairLevel 148 = .ok (.istore 5, 2) := by decide +kernel
theorem dX1_fairLevel_150 : decode cX1_fairLevel 150 = .ok (.iload 5, 2) := by decide +kernel
theorem dX1_fairLevel_152 : decode cX1_fairLevel 152 = .ok (.bipush 32, 2) := by decide +kernel
theorem dX1_fairLevel_154 : decode cX1_fairLevel 154 = .ok (.if_icmp .gt 66, 3) := by decide +kernel
theorem dX1_fairLevel_157 : decode cX1_fairLevel 157 = .ok (.iconst 0, 1) := by decide +kernel
theorem dX1_fairLevel_158 : decode cX1_fairLevel 158 = .ok (.istore 6, 2) := by decide +kernel
theorem dX1_fairLevel_160 : decode cX1_fairLevel 160 = .ok (.iload 6, 2) := by decide +kernel
theorem dX1_fairLevel_162 : decode cX1_fairLevel 162 = .ok (.aload_n 0, 1) := by decide +kernel
theorem dX1_fairLevel_163 : decode cX1_fairLevel 163 = .ok (.getfield 49, 3) := by decide +kernel
theorem dX1_fairLevel_166 : decode cX1_fairLevel 166 = .ok (.if_icmp .ge 48, 3) := by decide +kernel
theorem dX1_fairLevel_169 : decode cX1_fairLevel 169 = .ok (.aload_n 0, 1) := by decide +kernel
theorem dX1_fairLevel_170 : decode cX1_fairLevel 170 = .ok (.getfield 7, 3) := by decide +kernel
theorem dX1_fairLevel_173 : decode cX1_fairLevel 173 = .ok (.iload 6, 2) := by decide +kernel
theorem dX1_fairLevel_175 : decode cX1_fairLevel 175 = .ok (.iaload, 1) := by decide +kernel
theorem dX1_fairLevel_176 : decode cX1_fairLevel 176 = .ok (.iload_n 1, 1) := by decide +kernel
theorem dX1_fairLevel_177 : decode cX1_fairLevel 177 = .ok (.if_icmp .ne 31, 3) := by decide +kernel
theorem dX1_fairLevel_180 : decode cX1_fairLevel 180 = .ok (.aload_n 0, 1) := by decide +kernel
theorem dX1_fairLevel_181 : decode cX1_fairLevel 181 = .ok (.iload 6, 2) := by decide +kernel
theorem dX1_fairLevel_183 : decode cX1_fairLevel 183 = .ok (.invokevirtual 85, 3) := by decide +kernel
theorem dX1_fairLevel_186 : decode cX1_fairLevel 186 = .ok (.iload 5, 2) := by decide +kernel
theorem dX1_fairLevel_188 : decode cX1_fairLevel 188 = .ok (.if_icmp .ne 20, 3) := by decide +kernel
theorem dX1_fairLevel_191 : decode cX1_fairLevel 191 = .ok (.iload 5, 2) := by decide +kernel
theorem dX1_fairLevel_193 : decode cX1_fairLevel 193 = .ok (.iload 4, 2) := by decide +kernel
theorem dX1_fairLevel_195 : decode cX1_fairLevel 195 = .ok (.imul, 1) := by decide +kernel
theorem dX1_fairLevel_196 : decode cX1_fairLevel 196 = .ok (.iload_n 2, 1) := by decide +kernel
theorem dX1_fairLevel_197 : decode cX1_fairLevel 197 = .ok (.if_icmp .gt 11, 3) := by decide +kernel
theorem dX1_fairLevel_200 : decode cX1_fairLevel 200 = .ok (.iload_n 2, 1) := by decide +kernel
theorem dX1_fairLevel_201 : decode cX1_fairLevel 201 = .ok (.iload 5, 2) := by decide +kernel
theorem dX1_fairLevel_203 : decode cX1_fairLevel 203 = .ok (.isub, 1) := by decide +kernel
theorem dX1_fairLevel_204 : decode cX1_fairLevel 204 = .ok (.istore_n 2, 1) := by decide +kernel
theorem dX1_fairLevel_205 : decode cX1_fairLevel 205 = .ok (.iinc 4 (-1), 3) := by decide +kernel
theorem dX1_fairLevel_208 : decode cX1_fairLevel 208 = .ok (.iinc 6 1, 3) := by decide +kernel
theorem dX1_fairLevel_211 : decode cX1_fairLevel 211 = .ok (.goto (-51), 3) := by decide +kernel
theorem dX1_fairLevel_214 : decode cX1_fairLevel 214 = .ok (.iinc 5 1, 3) := by decide +kernel
theorem dX1_fairLevel_217 : decode cX1_fairLevel 217 = .ok (.goto (-67), 3) := by decide +kernel
theorem dX1_fairLevel_220 : decode cX1_fairLevel 220 = .ok (.sipush 1000, 3) := by decide +kernel
theorem dX1_fairLevel_223 : decode cX1_fairLevel 223 = .ok (.iload_n 2, 1) := by decide +kernel
theorem dX1_fairLevel_224 : decode cX1_fairLevel 224 = .ok (.imul, 1) := by decide +kernel
theorem dX1_fairLevel_225 : decode cX1_fairLevel 225 = .ok (.iload 4, 2) := by decide +kernel
theorem dX1_fairLevel_227 : decode cX1_fairLevel 227 = .ok (.idiv, 1) := by decide +kernel
theorem dX1_fairLevel_228 : decode cX1_fairLevel 228 = .ok (.ireturn, 1) := by decide +kernel
set_option maxRecDepth 20000 in
theorem ggX1_canBeReady_X1_lax : GoodIn wsX1_canBeReady wsX1_lax := goodIn_r _ [9, 4, 10, 11, 12, 8, 13, 14, 15, 16, 17, 18, 19, 20, 21, 22, 23, 24, 25, 26, 27, 28, 29, 30, 31, 32, 33, 34, 35, 36, 37, 38, 39, 40, 41, 42, 43, 44, 45] (by decide +kernel) (by decide +kernel)
set_option maxRecDepth 20000 in
theorem gX1_canBeReady_X1_lax : GoodIn wsX1_canBeReady (wsV RX1 76 RX1 yX1_lax wsX1_lax) := goodIn_app (goodIn_of _ (by decide +kernel)) ggX1_canBeReady_X1_lax
theorem dX1_canBeReady_0 : decode cX1_canBeReady 0 = .ok (.aload_n 0, 1) := by decide +kernel
theorem dX1_canBeReady_1 : decode cX1_canBeReady 1 = .ok (.iconst 0, 1) := by decide +kernel
theorem dX1_canBeReady_2 : decode cX1_canBeReady 2 = .ok (.putfield 42, 3) := by decide +kernel
theorem dX1_canBeReady_5 : decode cX1_canBeReady 5 = .ok (.iconst 1, 1) := by decide +kernel
theorem dX1_canBeReady_6 : decode cX1_canBeReady 6 = .ok (.istore_n 1, 1) := by decide +kernel
theorem dX1_canBeReady_7 : decode cX1_canBeReady 7 = .ok (.iconst 0, 1) := by decide +kernel
theorem dX1_canBeReady_8 : decode cX1_canBeReady 8 = .ok (.istore_n 2, 1) := by decide +kernel
theorem dX1_canBeReady_9 : decode cX1_canBeReady 9 = .ok (.iload_n 2, 1) := by decide +kernel
theorem dX1_canBeReady_10 : decode cX1_canBeReady 10 = .ok (.aload_n 0, 1) := by decide +kernel
theorem dX1_canBeReady_11 : decode cX1_canBeReady 11 = .ok (.getfield 49, 3) := by decide +kernel
theorem dX1_canBeReady_14 : decode cX1_canBeReady 14 = .ok (.if_icmp .ge 43, 3) := by decide +kernel
theorem dX1_canBeReady_17 : decode cX1_canBeReady 17 = .ok (.iload_n 1, 1) := by decide +kernel
theorem dX1_canBeReady_18 : decode cX1_canBeReady 18 = .ok (.aload_n 0, 1) := by decide +kernel
theorem dX1_canBeReady_19 : decode cX1_canBeReady 19 = .ok (.getfield 16, 3) := by decide +kernel
theorem dX1_canBeReady_22 : decode cX1_canBeReady 22 = .ok (.iload_n 2, 1) := by decide +kernel
theorem dX1_canBeReady_23 : decode cX1_canBeReady 23 = .ok (.baload, 1) := by decide +kernel
theorem dX1_canBeReady_24 : decode cX1_canBeReady 24 = .ok (.ifCond .eq 20, 3) := by decide +kernel
theorem dX1_canBeReady_27 : decode cX1_canBeReady 27 = .ok (.aload_n 0, 1) := by decide +kernel
theorem dX1_canBeReady_28 : decode cX1_canBeReady 28 = .ok (.getfield 20, 3) := by decide +kernel
theorem dX1_canBeReady_31 : decode cX1_canBeReady 31 = .ok (.iload_n 2, 1) := by decide +kernel
theorem dX1_canBeReady_32 : decode cX1_canBeReady 32 = .ok (.iaload, 1) := by decide +kernel
theorem dX1_canBeReady_33 : decode cX1_canBeReady 33 = .ok (.ifCond .eq 11, 3) := by decide +kernel
theorem dX1_canBeReady_36 : decode cX1_canBeReady 36 = .ok (.aload_n 0, 1) := by decide +kernel
theorem dX1_canBeReady_37 : decode cX1_canBeReady 37 = .ok (.iload_n 2, 1) := by decide +kernel
theorem dX1_canBeReady_38 : decode cX1_canBeReady 38 = .ok (.invokevirtual 76, 3) := by decide +kernel
theorem dX1_canBeReady_41 : decode cX1_canBeReady 41 = .ok (.ifCond .lt 7, 3) := by decide +kernel
theorem dX1_canBeReady_44 : decode cX1_canBeReady 44 = .ok (.iconst 1, 1) := by decide +kernel
theorem dX1_canBeReady_45 : decode cX1_canBeReady 45 = .ok (.goto 4, 3) := by decide +kernel
theorem dX1_canBeReady_48 : decode cX1_canBeReady 48 = .ok (.iconst 0, 1) := by decide +kernel
theorem dX1_canBeReady_49 : decode cX1_canBeReady 49 = .ok (.iand, 1) := by decide +kernel
theorem dX1_canBeReady_50 : decode cX1_canBeReady 50 = .ok (.istore_n 1, 1) := by decide +kernel
theorem dX1_canBeReady_51 : decode cX1_canBeReady 51 = .ok (.iinc 2 1, 3) := by decide +kernel
theorem dX1_canBeReady_54 : decode cX1_canBeReady 54 = .ok (.goto (-45), 3) := by decide +kernel
theorem dX1_canBeReady_57 : decode cX1_canBeReady 57 = .ok (.iload_n 1, 1) := by decide +kernel
theorem dX1_canBeReady_58 : decode cX1_canBeReady 58 = .ok (.ireturn, 1) := by decide +kernel
theorem dJ9_max_7cf53_0 : decode cJ9_max_7cf53 0 = .ok (.iload_n 0, 1) := by decide +kernel
theorem dJ9_max_7cf53_1 : decode cJ9_max_7cf53 1 = .ok (.iload_n 1, 1) := by decide +kernel
theorem dJ9_max_7cf53_2 : decode cJ9_max_7cf53 2 = .ok (.if_icmp .lt 7, 3) := by decide +kernel
theorem dJ9_max_7cf53_5 : decode cJ9_max_7cf53 5 = .ok (.iload_n 0, 1) := by decide +kernel
theorem dJ9_max_7cf53_6 : decode cJ9_max_7cf53 6 = .ok (.goto 4, 3) := by decide +kernel
theorem dJ9_max_7cf53_9 : decode cJ9_max_7cf53 9 = .ok (.iload_n 1, 1) := by decide +kernel
theorem dJ9_max_7cf53_10 : decode cJ9_max_7cf53 10 = .ok (.ireturn, 1) := by decide +kernel
theorem dJ9_min_7cf53_0 : decode cJ9_min_7cf53 0 = .ok (.iload_n 0, 1) := by decide +kernel
theorem dJ9_min_7cf53_1 : decode cJ9_min_7cf53 1 = .ok (.iload_n 1, 1) := by decide +kernel
theorem dJ9_min_7cf53_2 : decode cJ9_min_7cf53 2 = .ok (.if_icmp .gt 7, 3) := by decide +kernel
theorem dJ9_min_7cf53_5 : decode cJ9_min_7cf53 5 = .ok (.iload_n 0, 1) := by decide +kernel
theorem dJ9_min_7cf53_6 : decode cJ9_min_7cf53 6 = .ok (.goto 4, 3) := by decide +kernel
theorem dJ9_min_7cf53_9 : decode cJ9_min_7cf53 9 = .ok (.iload_n 1, 1) := by decide +kernel
theorem dJ9_min_7cf53_10 : decode cJ9_min_7cf53 10 = .ok (.ireturn, 1) := by decide +kernel
end
section
set_option maxRecDepth 20000 in
theorem ggL_point_X0_point : GoodIn wsL_point wsX0_point := goodIn_ca (goodIn_ca (goodIn_r _ [7, 8, 9, 10, 11, 12, 13, 14, 15, 6, 16, 17, 18, 19, 20, 21, 22, 23, 24, 25, 26, 27, 28, 29, 30, 31, 32, 33, 34, 35, 36, 37] (by decide +kernel) (by decide +kernel)) (goodIn_sub (fun _ h => List.mem_cons_of_mem _ (List.mem_append_left _ (List.mem_append_right _ h))) (by decide +kernel))) (goodIn_sub (fun _ h => List.mem_cons_of_mem _ (List.mem_append_right _ h)) (by decide +kernel))
set_option maxRecDepth 20000 in
theorem gL_point_X0_point : GoodIn wsL_point (wsV RL 7 RX0 yX0_point wsX0_point) := goodIn_app (goodIn_of _ (by decide +kernel)) ggL_point_X0_point
theorem dL_point_0 : decode cL_point 0 = .ok (.aload_n 3, 1) := by decide +kernel
theorem dL_point_1 : decode cL_point 1 = .ok (.iconst 0, 1) := by decide +kernel
theorem dL_point_2 : decode cL_point 2 = .ok (.aload_n 0, 1) := by decide +kernel
theorem dL_point_3 : decode cL_point 3 = .ok (.iload_n 1, 1) := by decide +kernel
theorem dL_point_4 : decode cL_point 4 = .ok (.iload_n 2, 1) := by decide +kernel
theorem dL_point_5 : decode cL_point 5 = .ok (.invokevirtual 7, 3) := by decide +kernel
theorem dL_point_8 : decode cL_point 8 = .ok (.i2l, 1) := by decide +kernel
theorem dL_point_9 : decode cL_point 9 = .ok (.lastore, 1) := by decide +kernel
theorem dL_point_10 : decode cL_point 10 = .ok (.goto 11, 3) := by decide +kernel
theorem dL_point_13 : decode cL_point 13 = .ok (.astore 4, 2) := by decide +kernel
theorem dL_point_15 : decode cL_point 15 = .ok (.iconst 1, 1) := by decide +kernel
theorem dL_point_16 : decode cL_point 16 = .ok (.ireturn, 1) := by decide +kernel
theorem dL_point_17 : decode cL_point 17 = .ok (.astore 4, 2) := by decide +kernel
theorem dL_point_19 : decode cL_point 19 = .ok (.iconst 2, 1) := by decide +kernel
theorem dL_point_20 : decode cL_point 20 = .ok (.ireturn, 1) := by decide +kernel
theorem dL_point_21 : decode cL_point 21 = .ok (.iconst 0, 1) := by decide +kernel
theorem dL_point_22 : decode cL_point 22 = .ok (.ireturn, 1) := by decide +kernel
set_option maxRecDepth 20000 in
theorem ggL_fuse_X0_fuse : GoodIn wsL_fuse wsX0_fuse := goodIn_ca (goodIn_r _ [6, 7, 8, 9, 5, 10, 11, 12, 13, 14, 15, 16, 17, 18, 19, 20, 21, 22, 23, 24, 25, 26, 27, 28, 29, 30, 31] (by decide +kernel) (by decide +kernel)) (goodIn_sub (fun _ h => List.mem_cons_of_mem _ (List.mem_append_right _ h)) (by decide +kernel))
set_option maxRecDepth 20000 in
theorem gL_fuse_X0_fuse : GoodIn wsL_fuse (wsV RL 17 RX0 yX0_fuse wsX0_fuse) := goodIn_app (goodIn_of _ (by decide +kernel)) ggL_fuse_X0_fuse
theorem dL_fuse_0 : decode cL_fuse 0 = .ok (.aload_n 3, 1) := by decide +kernel
theorem dL_fuse_1 : decode cL_fuse 1 = .ok (.iconst 0, 1) := by decide +kernel
theorem dL_fuse_2 : decode cL_fuse 2 = .ok (.aload_n 0, 1) := by decide +kernel
theorem dL_fuse_3 : decode cL_fuse 3 = .ok (.iload_n 1, 1) := by decide +kernel
theorem dL_fuse_4 : decode cL_fuse 4 = .ok (.iload_n 2, 1) := by decide +kernel
theorem dL_fuse_5 : decode cL_fuse 5 = .ok (.invokevirtual 17, 3) := by decide +kernel
theorem dL_fuse_8 : decode cL_fuse 8 = .ok (.i2l, 1) := by decide +kernel
theorem dL_fuse_9 : decode cL_fuse 9 = .ok (.lastore, 1) := by decide +kernel
theorem dL_fuse_10 : decode cL_fuse 10 = .ok (.goto 7, 3) := by decide +kernel
theorem dL_fuse_13 : decode cL_fuse 13 = .ok (.astore 4, 2) := by decide +kernel
theorem dL_fuse_15 : decode cL_fuse 15 = .ok (.iconst 1, 1) := by decide +kernel
theorem dL_fuse_16 : decode cL_fuse 16 = .ok (.ireturn, 1) := by decide +kernel
theorem dL_fuse_17 : decode cL_fuse 17 = .ok (.iconst 0, 1) := by decide +kernel
theorem dL_fuse_18 : decode cL_fuse 18 = .ok (.ireturn, 1) := by decide +kernel
set_option maxRecDepth 20000 in
theorem ggL_balance_X0_balance : GoodIn wsL_balance wsX0_balance := goodIn_ca (goodIn_r _ [6, 7, 8, 9, 5, 10, 11, 12, 13, 14, 15, 16, 17, 18, 19, 20, 21, 22, 23, 24, 25, 26, 27, 28] (by decide +kernel) (by decide +kernel)) (goodIn_sub (fun _ h => List.mem_cons_of_mem _ (List.mem_append_right _ h)) (by decide +kernel))
set_option maxRecDepth 20000 in
theorem gL_balance_X0_balance : GoodIn wsL_balance (wsV RL 20 RX0 yX0_balance wsX0_balance) := goodIn_app (goodIn_of _ (by decide +kernel)) ggL_balance_X0_balance
theorem dL_balance_0 : decode cL_balance 0 = .ok (.aload_n 2, 1) := by decide +kernel
theorem dL_balance_1 : decode cL_balance 1 = .ok (.iconst 0, 1) := by decide +kernel
theorem dL_balance_2 : decode cL_balance 2 = .ok (.aload_n 0, 1) := by decide +kernel
theorem dL_balance_3 : decode cL_balance 3 = .ok (.iload_n 1, 1) := by decide +kernel
theorem dL_balance_4 : decode cL_balance 4 = .ok (.invokevirtual 20, 3) := by decide +kernel
theorem dL_balance_7 : decode cL_balance 7 = .ok (.i2l, 1) := by decide +kernel
theorem dL_balance_8 : decode cL_balance 8 = .ok (.lastore, 1) := by decide +kernel
theorem dL_balance_9 : decode cL_balance 9 = .ok (.goto 6, 3) := by decide +kernel
theorem dL_balance_12 : decode cL_balance 12 = .ok (.astore_n 3, 1) := by decide +kernel
theorem dL_balance_13 : decode cL_balance 13 = .ok (.iconst 1, 1) := by decide +kernel
theorem dL_balance_14 : decode cL_balance 14 = .ok (.ireturn, 1) := by decide +kernel
theorem dL_balance_15 : decode cL_balance 15 = .ok (.iconst 0, 1) := by decide +kernel
theorem dL_balance_16 : decode cL_balance 16 = .ok (.ireturn, 1) := by decide +kernel
set_option maxRecDepth 20000 in
theorem ggL_rule_X0_rule : GoodIn wsL_rule wsX0_rule := goodIn_ca (goodIn_r _ [6, 7, 8, 9, 5, 10, 11, 12, 13, 14, 15, 16, 17, 18, 19, 20, 21, 22, 23, 24, 25, 26, 27, 28] (by decide +kernel) (by decide +kernel)) (goodIn_sub (fun _ h => List.mem_cons_of_mem _ (List.mem_append_right _ h)) (by decide +kernel))
set_option maxRecDepth 20000 in
theorem gL_rule_X0_rule : GoodIn wsL_rule (wsV RL 24 RX0 yX0_rule wsX0_rule) := goodIn_app (goodIn_of _ (by decide +kernel)) ggL_rule_X0_rule
theorem dL_rule_0 : decode cL_rule 0 = .ok (.aload_n 2, 1) := by decide +kernel
theorem dL_rule_1 : decode cL_rule 1 = .ok (.iconst 0, 1) := by decide +kernel
theorem dL_rule_2 : decode cL_rule 2 = .ok (.aload_n 0, 1) := by decide +kernel
theorem dL_rule_3 : decode cL_rule 3 = .ok (.iload_n 1, 1) := by decide +kernel
theorem dL_rule_4 : decode cL_rule 4 = .ok (.invokevirtual 24, 3) := by decide +kernel
theorem dL_rule_7 : decode cL_rule 7 = .ok (.i2l, 1) := by decide +kernel
theorem dL_rule_8 : decode cL_rule 8 = .ok (.lastore, 1) := by decide +kernel
theorem dL_rule_9 : decode cL_rule 9 = .ok (.goto 6, 3) := by decide +kernel
theorem dL_rule_12 : decode cL_rule 12 = .ok (.astore_n 3, 1) := by decide +kernel
theorem dL_rule_13 : decode cL_rule 13 = .ok (.iconst 1, 1) := by decide +kernel
theorem dL_rule_14 : decode cL_rule 14 = .ok (.ireturn, 1) := by decide +kernel
theorem dL_rule_15 : decode cL_rule 15 = .ok (.iconst 0, 1) := by decide +kernel
theorem dL_rule_16 : decode cL_rule 16 = .ok (.ireturn, 1) := by decide +kernel
set_option maxRecDepth 20000 in
theorem ggL_plugIn_X0_plugIn : GoodIn wsL_plugIn wsX0_plugIn := goodIn_ca (goodIn_ca (goodIn_ca (goodIn_r _ [8, 9, 10, 11, 12, 13, 14, 15, 16, 17, 7, 18, 19, 20, 21, 22, 23, 24, 25, 26, 27, 28, 29, 30, 31, 32, 33, 34, 35, 36, 37, 38, 39, 40, 41, 42, 43, 44, 45, 46, 47, 48, 49, 50, 51, 52, 53, 54, 55, 56, 57, 58, 59, 60, 61, 62, 63, 64, 65, 66, 67, 68, 69, 70, 71, 72, 73, 74] (by decide +kernel) (by decide +kernel)) (goodIn_sub (fun _ h => List.mem_cons_of_mem _ (List.mem_append_left _ (List.mem_append_left _ (List.mem_append_right _ h)))) (by decide +kernel))) (goodIn_sub (fun _ h => List.mem_cons_of_mem _ (List.mem_append_left _ (List.mem_append_right _ h))) (by decide +kernel))) (goodIn_sub (fun _ h => List.mem_cons_of_mem _ (List.mem_append_right _ h)) (by decide +kernel))
set_option maxRecDepth 20000 in
theorem gL_plugIn_X0_plugIn : GoodIn wsL_plugIn (wsV RL 27 RX0 yX0_plugIn wsX0_plugIn) := goodIn_app (goodIn_of _ (by decide +kernel)) ggL_plugIn_X0_plugIn
theorem dL_plugIn_0 : decode cL_plugIn 0 = .ok (.aload 5, 2) := by decide +kernel
theorem dL_plugIn_2 : decode cL_plugIn 2 = .ok (.iconst 0, 1) := by decide +kernel
theorem dL_plugIn_3 : decode cL_plugIn 3 = .ok (.aload_n 0, 1) := by decide +kernel
theorem dL_plugIn_4 : decode cL_plugIn 4 = .ok (.iload_n 1, 1) := by decide +kernel
theorem dL_plugIn_5 : decode cL_plugIn 5 = .ok (.iload_n 2, 1) := by decide +kernel
theorem dL_plugIn_6 : decode cL_plugIn 6 = .ok (.iload_n 3, 1) := by decide +kernel
theorem dL_plugIn_7 : decode cL_plugIn 7 = .ok (.iload 4, 2) := by decide +kernel
theorem dL_plugIn_9 : decode cL_plugIn 9 = .ok (.invokevirtual 27, 3) := by decide +kernel
theorem dL_plugIn_12 : decode cL_plugIn 12 = .ok (.i2l, 1) := by decide +kernel
theorem dL_plugIn_13 : decode cL_plugIn 13 = .ok (.lastore, 1) := by decide +kernel
theorem dL_plugIn_14 : decode cL_plugIn 14 = .ok (.goto 15, 3) := by decide +kernel
theorem dL_plugIn_17 : decode cL_plugIn 17 = .ok (.astore 6, 2) := by decide +kernel
theorem dL_plugIn_19 : decode cL_plugIn 19 = .ok (.iconst 1, 1) := by decide +kernel
theorem dL_plugIn_20 : decode cL_plugIn 20 = .ok (.ireturn, 1) := by decide +kernel
theorem dL_plugIn_21 : decode cL_plugIn 21 = .ok (.astore 6, 2) := by decide +kernel
theorem dL_plugIn_23 : decode cL_plugIn 23 = .ok (.iconst 2, 1) := by decide +kernel
theorem dL_plugIn_24 : decode cL_plugIn 24 = .ok (.ireturn, 1) := by decide +kernel
theorem dL_plugIn_25 : decode cL_plugIn 25 = .ok (.astore 6, 2) := by decide +kernel
theorem dL_plugIn_27 : decode cL_plugIn 27 = .ok (.iconst 3, 1) := by decide +kernel
theorem dL_plugIn_28 : decode cL_plugIn 28 = .ok (.ireturn, 1) := by decide +kernel
theorem dL_plugIn_29 : decode cL_plugIn 29 = .ok (.iconst 0, 1) := by decide +kernel
theorem dL_plugIn_30 : decode cL_plugIn 30 = .ok (.ireturn, 1) := by decide +kernel
set_option maxRecDepth 20000 in
theorem ggL_takeOut_X0_takeOut : GoodIn wsL_takeOut wsX0_takeOut := goodIn_ca (goodIn_ca (goodIn_r _ [7, 8, 9, 10, 11, 12, 6, 13, 14, 15, 16, 17, 18, 19, 20, 21, 22, 23, 24, 25, 26, 27, 28, 29, 30, 31, 32, 33, 34, 35, 36, 37, 38, 39, 40, 41, 42] (by decide +kernel) (by decide +kernel)) (goodIn_sub (fun _ h => List.mem_cons_of_mem _ (List.mem_append_left _ (List.mem_append_right _ h))) (by decide +kernel))) (goodIn_sub (fun _ h => List.mem_cons_of_mem _ (List.mem_append_right _ h)) (by decide +kernel))
set_option maxRecDepth 20000 in
theorem gL_takeOut_X0_takeOut : GoodIn wsL_takeOut (wsV RL 33 RX0 yX0_takeOut wsX0_takeOut) := goodIn_app (goodIn_of _ (by decide +kernel)) ggL_takeOut_X0_takeOut
theorem dL_takeOut_0 : decode cL_takeOut 0 = .ok (.aload_n 2, 1) := by decide +kernel
theorem dL_takeOut_1 : decode cL_takeOut 1 = .ok (.iconst 0, 1) := by decide +kernel
theorem dL_takeOut_2 : decode cL_takeOut 2 = .ok (.aload_n 0, 1) := by decide +kernel
theorem dL_takeOut_3 : decode cL_takeOut 3 = .ok (.iload_n 1, 1) := by decide +kernel
theorem dL_takeOut_4 : decode cL_takeOut 4 = .ok (.invokevirtual 33, 3) := by decide +kernel
theorem dL_takeOut_7 : decode cL_takeOut 7 = .ok (.i2l, 1) := by decide +kernel
theorem dL_takeOut_8 : decode cL_takeOut 8 = .ok (.lastore, 1) := by decide +kernel
theorem dL_takeOut_9 : decode cL_takeOut 9 = .ok (.goto 9, 3) := by decide +kernel
theorem dL_takeOut_12 : decode cL_takeOut 12 = .ok (.astore_n 3, 1) := by decide +kernel
theorem dL_takeOut_13 : decode cL_takeOut 13 = .ok (.iconst 1, 1) := by decide +kernel
theorem dL_takeOut_14 : decode cL_takeOut 14 = .ok (.ireturn, 1) := by decide +kernel
theorem dL_takeOut_15 : decode cL_takeOut 15 = .ok (.astore_n 3, 1) := by decide +kernel
theorem dL_takeOut_16 : decode cL_takeOut 16 = .ok (.iconst 2, 1) := by decide +kernel
theorem dL_takeOut_17 : decode cL_takeOut 17 = .ok (.ireturn, 1) := by decide +kernel
theorem dL_takeOut_18 : decode cL_takeOut 18 = .ok (.iconst 0, 1) := by decide +kernel
theorem dL_takeOut_19 : decode cL_takeOut 19 = .ok (.ireturn, 1) := by decide +kernel
set_option maxRecDepth 20000 in
theorem ggL_appetite_X0_appetite : GoodIn wsL_appetite wsX0_appetite := goodIn_ca (goodIn_ca (goodIn_ca (goodIn_r _ [8, 9, 10, 11, 12, 7, 13, 14, 15, 16, 17, 18, 19, 20, 21, 22, 23, 24, 25, 26, 27, 28, 29, 30, 31, 32, 33, 34, 35, 36, 37, 38, 39, 40, 41, 42, 43, 44, 45, 46, 47, 48] (by decide +kernel) (by decide +kernel)) (goodIn_sub (fun _ h => List.mem_cons_of_mem _ (List.mem_append_left _ (List.mem_append_left _ (List.mem_append_right _ h)))) (by decide +kernel))) (goodIn_sub (fun _ h => List.mem_cons_of_mem _ (List.mem_append_left _ (List.mem_append_right _ h))) (by decide +kernel))) (goodIn_sub (fun _ h => List.mem_cons_of_mem _ (List.mem_append_right _ h)) (by decide +kernel))
set_option maxRecDepth 20000 in
theorem gL_appetite_X0_appetite : GoodIn wsL_appetite (wsV RL 36 RX0 yX0_appetite wsX0_appetite) := goodIn_app (goodIn_of _ (by decide +kernel)) ggL_appetite_X0_appetite
theorem dL_appetite_0 : decode cL_appetite 0 = .ok (.aload_n 3, 1) := by decide +kernel
theorem dL_appetite_1 : decode cL_appetite 1 = .ok (.iconst 0, 1) := by decide +kernel
theorem dL_appetite_2 : decode cL_appetite 2 = .ok (.aload_n 0, 1) := by decide +kernel
theorem dL_appetite_3 : decode cL_appetite 3 = .ok (.iload_n 1, 1) := by decide +kernel
theorem dL_appetite_4 : decode cL_appetite 4 = .ok (.iload_n 2, 1) := by decide +kernel
theorem dL_appetite_5 : decode cL_appetite 5 = .ok (.invokevirtual 36, 3) := by decide +kernel
theorem dL_appetite_8 : decode cL_appetite 8 = .ok (.i2l, 1) := by decide +kernel
theorem dL_appetite_9 : decode cL_appetite 9 = .ok (.lastore, 1) := by decide +kernel
theorem dL_appetite_10 : decode cL_appetite 10 = .ok (.goto 15, 3) := by decide +kernel
theorem dL_appetite_13 : decode cL_appetite 13 = .ok (.astore 4, 2) := by decide +kernel
theorem dL_appetite_15 : decode cL_appetite 15 = .ok (.iconst 1, 1) := by decide +kernel
theorem dL_appetite_16 : decode cL_appetite 16 = .ok (.ireturn, 1) := by decide +kernel
theorem dL_appetite_17 : decode cL_appetite 17 = .ok (.astore 4, 2) := by decide +kernel
theorem dL_appetite_19 : decode cL_appetite 19 = .ok (.iconst 2, 1) := by decide +kernel
theorem dL_appetite_20 : decode cL_appetite 20 = .ok (.ireturn, 1) := by decide +kernel
theorem dL_appetite_21 : decode cL_appetite 21 = .ok (.astore 4, 2) := by decide +kernel
theorem dL_appetite_23 : decode cL_appetite 23 = .ok (.iconst 3, 1) := by decide +kernel
theorem dL_appetite_24 : decode cL_appetite 24 = .ok (.ireturn, 1) := by decide +kernel
theorem dL_appetite_25 : decode cL_appetite 25 = .ok (.iconst 0, 1) := by decide +kernel
theorem dL_appetite_26 : decode cL_appetite 26 = .ok (.ireturn, 1) := by decide +kernel
set_option maxRecDepth 20000 in
theorem ggL_stay_X0_stay : GoodIn wsL_stay wsX0_stay := goodIn_ca (goodIn_ca (goodIn_ca (goodIn_r _ [8, 9, 10, 11, 12, 13, 14, 15, 16, 17, 7, 18, 19, 20, 21, 22, 23, 24, 25, 26, 27, 28, 29, 30, 31, 32, 33, 34, 35, 36, 37, 38, 39, 40, 41, 42, 43, 44, 45, 46, 47, 48, 49, 50, 51, 52, 53, 54, 55, 56, 57] (by decide +kernel) (by decide +kernel)) (goodIn_sub (fun _ h => List.mem_cons_of_mem _ (List.mem_append_left _ (List.mem_append_left _ (List.mem_append_right _ h)))) (by decide +kernel))) (goodIn_sub (fun _ h => List.mem_cons_of_mem _ (List.mem_append_left _ (List.mem_append_right _ h))) (by decide +kernel))) (goodIn_sub (fun _ h => List.mem_cons_of_mem _ (List.mem_append_right _ h)) (by decide +kernel))
set_option maxRecDepth 20000 in
theorem gL_stay_X0_stay : GoodIn wsL_stay (wsV RL 39 RX0 yX0_stay wsX0_stay) := goodIn_app (goodIn_of _ (by decide +kernel)) ggL_stay_X0_stay
theorem dL_stay_0 : decode cL_stay 0 = .ok (.aload_n 3, 1) := by decide +kernel
theorem dL_stay_1 : decode cL_stay 1 = .ok (.iconst 0, 1) := by decide +kernel
theorem dL_stay_2 : decode cL_stay 2 = .ok (.aload_n 0, 1) := by decide +kernel
theorem dL_stay_3 : decode cL_stay 3 = .ok (.iload_n 1, 1) := by decide +kernel
theorem dL_stay_4 : decode cL_stay 4 = .ok (.iload_n 2, 1) := by decide +kernel
theorem dL_stay_5 : decode cL_stay 5 = .ok (.invokevirtual 39, 3) := by decide +kernel
theorem dL_stay_8 : decode cL_stay 8 = .ok (.i2l, 1) := by decide +kernel
theorem dL_stay_9 : decode cL_stay 9 = .ok (.lastore, 1) := by decide +kernel
theorem dL_stay_10 : decode cL_stay 10 = .ok (.goto 15, 3) := by decide +kernel
theorem dL_stay_13 : decode cL_stay 13 = .ok (.astore 4, 2) := by decide +kernel
theorem dL_stay_15 : decode cL_stay 15 = .ok (.iconst 1, 1) := by decide +kernel
theorem dL_stay_16 : decode cL_stay 16 = .ok (.ireturn, 1) := by decide +kernel
theorem dL_stay_17 : decode cL_stay 17 = .ok (.astore 4, 2) := by decide +kernel
theorem dL_stay_19 : decode cL_stay 19 = .ok (.iconst 2, 1) := by decide +kernel
theorem dL_stay_20 : decode cL_stay 20 = .ok (.ireturn, 1) := by decide +kernel
theorem dL_stay_21 : decode cL_stay 21 = .ok (.astore 4, 2) := by decide +kernel
theorem dL_stay_23 : decode cL_stay 23 = .ok (.iconst 3, 1) := by decide +kernel
theorem dL_stay_24 : decode cL_stay 24 = .ok (.ireturn, 1) := by decide +kernel
theorem dL_stay_25 : decode cL_stay 25 = .ok (.iconst 0, 1) := by decide +kernel
theorem dL_stay_26 : decode cL_stay 26 = .ok (.ireturn, 1) := by decide +kernel
set_option maxRecDepth 20000 in
theorem ggL_step_X0_step : GoodIn wsL_step wsX0_step := goodIn_ca (goodIn_r _ [6, 7, 8, 9, 10, 5, 11, 12, 13, 14, 15, 16, 17, 18, 19, 20, 21, 22, 23, 24, 25, 26, 27, 28, 29, 30, 31, 32, 33, 34, 35, 36, 37, 38, 39, 40, 41, 42, 43, 44, 45, 46, 47, 48, 49, 50, 51, 52, 53, 54, 55, 56, 57, 58, 59, 60, 61, 62, 63, 64, 65, 66, 67, 68, 69, 70, 71, 72, 73, 74, 75, 76, 77, 78, 79, 80, 81, 82, 83, 84, 85, 86, 87, 88, 89, 90, 91, 92, 93, 94, 95, 96, 97, 98, 99, 100, 101, 102, 103, 104, 105, 106, 107, 108, 109, 110, 111, 112, 113, 114, 115, 116, 117, 118, 119, 120, 121, 122, 123, 124, 125, 126, 127, 128, 129, 130, 131, 132] (by decide +kernel) (by decide +kernel)) (goodIn_sub (fun _ h => List.mem_cons_of_mem _ (List.mem_append_right _ h)) (by decide +kernel))
set_option maxRecDepth 20000 in
theorem gL_step_X0_step : GoodIn wsL_step (wsV RL 42 RX0 yX0_step wsX0_step) := goodIn_app (goodIn_of _ (by decide +kernel)) ggL_step_X0_step
theorem dL_step_0 : decode cL_step 0 = .ok (.aload_n 2, 1) := by decide +kernel
theorem dL_step_1 : decode cL_step 1 = .ok (.iconst 0, 1) := by decide +kernel
theorem dL_step_2 : decode cL_step 2 = .ok (.aload_n 0, 1) := by decide +kernel
theorem dL_step_3 : decode cL_step 3 = .ok (.iload_n 1, 1) := by decide +kernel
theorem dL_step_4 : decode cL_step 4 = .ok (.invokevirtual 42, 3) := by decide +kernel
theorem dL_step_7 : decode cL_step 7 = .ok (.i2l, 1) := by decide +kernel
theorem dL_step_8 : decode cL_step 8 = .ok (.lastore, 1) := by decide +kernel
theorem dL_step_9 : decode cL_step 9 = .ok (.goto 6, 3) := by decide +kernel
theorem dL_step_12 : decode cL_step 12 = .ok (.astore_n 3, 1) := by decide +kernel
theorem dL_step_13 : decode cL_step 13 = .ok (.iconst 1, 1) := by decide +kernel
theorem dL_step_14 : decode cL_step 14 = .ok (.ireturn, 1) := by decide +kernel
theorem dL_step_15 : decode cL_step 15 = .ok (.iconst 0, 1) := by decide +kernel
theorem dL_step_16 : decode cL_step 16 = .ok (.ireturn, 1) := by decide +kernel
set_option maxRecDepth 20000 in
theorem ggL_need_X0_need : GoodIn wsL_need wsX0_need := goodIn_ca (goodIn_r _ [6, 7, 8, 9, 10, 5, 11, 12, 13, 14, 15, 16, 17, 18, 19, 20, 21, 22, 23, 24, 25, 26, 27, 28, 29, 30] (by decide +kernel) (by decide +kernel)) (goodIn_sub (fun _ h => List.mem_cons_of_mem _ (List.mem_append_right _ h)) (by decide +kernel))
set_option maxRecDepth 20000 in
theorem gL_need_X0_need : GoodIn wsL_need (wsV RL 45 RX0 yX0_need wsX0_need) := goodIn_app (goodIn_of _ (by decide +kernel)) ggL_need_X0_need
theorem dL_need_0 : decode cL_need 0 = .ok (.aload_n 2, 1) := by decide +kernel
theorem dL_need_1 : decode cL_need 1 = .ok (.iconst 0, 1) := by decide +kernel
theorem dL_need_2 : decode cL_need 2 = .ok (.aload_n 0, 1) := by decide +kernel
theorem dL_need_3 : decode cL_need 3 = .ok (.iload_n 1, 1) := by decide +kernel
theorem dL_need_4 : decode cL_need 4 = .ok (.invokevirtual 45, 3) := by decide +kernel
theorem dL_need_7 : decode cL_need 7 = .ok (.i2l, 1) := by decide +kernel
theorem dL_need_8 : decode cL_need 8 = .ok (.lastore, 1) := by decide +kernel
theorem dL_need_9 : decode cL_need 9 = .ok (.goto 6, 3) := by decide +kernel
theorem dL_need_12 : decode cL_need 12 = .ok (.astore_n 3, 1) := by decide +kernel
theorem dL_need_13 : decode cL_need 13 = .ok (.iconst 1, 1) := by decide +kernel
theorem dL_need_14 : decode cL_need 14 = .ok (.ireturn, 1) := by decide +kernel
theorem dL_need_15 : decode cL_need 15 = .ok (.iconst 0, 1) := by decide +kernel
theorem dL_need_16 : decode cL_need 16 = .ok (.ireturn, 1) := by decide +kernel
set_option maxRecDepth 20000 in
theorem ggL_left_X0_left : GoodIn wsL_left wsX0_left := goodIn_ca (goodIn_r _ [6, 7, 8, 9, 5, 10, 11, 12, 13, 14, 15, 16, 17, 18, 19, 20, 21, 22, 23, 24, 25, 26, 27, 28, 29, 30, 31, 32, 33, 34, 35, 36, 37, 38, 39, 40, 41, 42, 43, 44] (by decide +kernel) (by decide +kernel)) (goodIn_sub (fun _ h => List.mem_cons_of_mem _ (List.mem_append_right _ h)) (by decide +kernel))
set_option maxRecDepth 20000 in
theorem gL_left_X0_left : GoodIn wsL_left (wsV RL 48 RX0 yX0_left wsX0_left) := goodIn_app (goodIn_of _ (by decide +kernel)) ggL_left_X0_left
theorem dL_left_0 : decode cL_left 0 = .ok (.aload_n 2, 1) := by decide +kernel
theorem dL_left_1 : decode cL_left 1 = .ok (.iconst 0, 1) := by decide +kernel
theorem dL_left_2 : decode cL_left 2 = .ok (.aload_n 0, 1) := by decide +kernel
theorem dL_left_3 : decode cL_left 3 = .ok (.iload_n 1, 1) := by decide +kernel
theorem dL_left_4 : decode cL_left 4 = .ok (.invokevirtual 48, 3) := by decide +kernel
theorem dL_left_7 : decode cL_left 7 = .ok (.i2l, 1) := by decide +kernel
theorem dL_left_8 : decode cL_left 8 = .ok (.lastore, 1) := by decide +kernel
theorem dL_left_9 : decode cL_left 9 = .ok (.goto 6, 3) := by decide +kernel
theorem dL_left_12 : decode cL_left 12 = .ok (.astore_n 3, 1) := by decide +kernel
theorem dL_left_13 : decode cL_left 13 = .ok (.iconst 1, 1) := by decide +kernel
theorem dL_left_14 : decode cL_left 14 = .ok (.ireturn, 1) := by decide +kernel
theorem dL_left_15 : decode cL_left 15 = .ok (.iconst 0, 1) := by decide +kernel
theorem dL_left_16 : decode cL_left 16 = .ok (.ireturn, 1) := by decide +kernel
set_option maxRecDepth 20000 in
theorem ggL_laxity_X0_laxity : GoodIn wsL_laxity wsX0_laxity := goodIn_ca (goodIn_ca (goodIn_r _ [7, 8, 9, 10, 6, 11, 12, 13, 14, 15, 16, 17, 18, 19, 20, 21, 22, 23, 24, 25, 26, 27, 28, 29, 30, 31, 32, 33, 34, 35, 36, 37, 38, 39, 40, 41, 42, 43, 44, 45, 46, 47, 48, 49, 50, 51, 52, 53, 54, 55, 56, 57, 58, 59, 60, 61, 62, 63, 64, 65, 66, 67, 68, 69, 70, 71, 72] (by decide +kernel) (by decide +kernel)) (goodIn_sub (fun _ h => List.mem_cons_of_mem _ (List.mem_append_left _ (List.mem_append_right _ h))) (by decide +kernel))) (goodIn_sub (fun _ h => List.mem_cons_of_mem _ (List.mem_append_right _ h)) (by decide +kernel))
set_option maxRecDepth 20000 in
theorem gL_laxity_X0_laxity : GoodIn wsL_laxity (wsV RL 51 RX0 yX0_laxity wsX0_laxity) := goodIn_app (goodIn_of _ (by decide +kernel)) ggL_laxity_X0_laxity
theorem dL_laxity_0 : decode cL_laxity 0 = .ok (.aload_n 2, 1) := by decide +kernel
theorem dL_laxity_1 : decode cL_laxity 1 = .ok (.iconst 0, 1) := by decide +kernel
theorem dL_laxity_2 : decode cL_laxity 2 = .ok (.aload_n 0, 1) := by decide +kernel
theorem dL_laxity_3 : decode cL_laxity 3 = .ok (.iload_n 1, 1) := by decide +kernel
theorem dL_laxity_4 : decode cL_laxity 4 = .ok (.invokevirtual 51, 3) := by decide +kernel
theorem dL_laxity_7 : decode cL_laxity 7 = .ok (.i2l, 1) := by decide +kernel
theorem dL_laxity_8 : decode cL_laxity 8 = .ok (.lastore, 1) := by decide +kernel
theorem dL_laxity_9 : decode cL_laxity 9 = .ok (.goto 9, 3) := by decide +kernel
theorem dL_laxity_12 : decode cL_laxity 12 = .ok (.astore_n 3, 1) := by decide +kernel
theorem dL_laxity_13 : decode cL_laxity 13 = .ok (.iconst 1, 1) := by decide +kernel
theorem dL_laxity_14 : decode cL_laxity 14 = .ok (.ireturn, 1) := by decide +kernel
theorem dL_laxity_15 : decode cL_laxity 15 = .ok (.astore_n 3, 1) := by decide +kernel
theorem dL_laxity_16 : decode cL_laxity 16 = .ok (.iconst 2, 1) := by decide +kernel
theorem dL_laxity_17 : decode cL_laxity 17 = .ok (.ireturn, 1) := by decide +kernel
theorem dL_laxity_18 : decode cL_laxity 18 = .ok (.iconst 0, 1) := by decide +kernel
theorem dL_laxity_19 : decode cL_laxity 19 = .ok (.ireturn, 1) := by decide +kernel
set_option maxRecDepth 20000 in
theorem ggL_reach_X0_reach : GoodIn wsL_reach wsX0_reach := goodIn_ca (goodIn_r _ [6, 7, 8, 9, 5, 10, 11, 12, 13, 14, 15, 16, 17, 18, 19, 20, 21, 22, 23, 24, 25, 26, 27, 28, 29, 30, 31, 32, 33, 34, 35, 36, 37, 38, 39, 40, 41, 42, 43, 44, 45, 46, 47, 48, 49, 50, 51, 52, 53, 54, 55, 56, 57, 58] (by decide +kernel) (by decide +kernel)) (goodIn_sub (fun _ h => List.mem_cons_of_mem _ (List.mem_append_right _ h)) (by decide +kernel))
set_option maxRecDepth 20000 in
theorem gL_reach_X0_reach : GoodIn wsL_reach (wsV RL 54 RX0 yX0_reach wsX0_reach) := goodIn_app (goodIn_of _ (by decide +kernel)) ggL_reach_X0_reach
theorem dL_reach_0 : decode cL_reach 0 = .ok (.aload_n 2, 1) := by decide +kernel
theorem dL_reach_1 : decode cL_reach 1 = .ok (.iconst 0, 1) := by decide +kernel
theorem dL_reach_2 : decode cL_reach 2 = .ok (.aload_n 0, 1) := by decide +kernel
theorem dL_reach_3 : decode cL_reach 3 = .ok (.iload_n 1, 1) := by decide +kernel
theorem dL_reach_4 : decode cL_reach 4 = .ok (.invokevirtual 54, 3) := by decide +kernel
theorem dL_reach_7 : decode cL_reach 7 = .ok (.i2l, 1) := by decide +kernel
theorem dL_reach_8 : decode cL_reach 8 = .ok (.lastore, 1) := by decide +kernel
theorem dL_reach_9 : decode cL_reach 9 = .ok (.goto 6, 3) := by decide +kernel
theorem dL_reach_12 : decode cL_reach 12 = .ok (.astore_n 3, 1) := by decide +kernel
theorem dL_reach_13 : decode cL_reach 13 = .ok (.iconst 1, 1) := by decide +kernel
theorem dL_reach_14 : decode cL_reach 14 = .ok (.ireturn, 1) := by decide +kernel
theorem dL_reach_15 : decode cL_reach 15 = .ok (.iconst 0, 1) := by decide +kernel
theorem dL_reach_16 : decode cL_reach 16 = .ok (.ireturn, 1) := by decide +kernel
set_option maxRecDepth 20000 in
theorem ggL_current_X0_current : GoodIn wsL_current wsX0_current := goodIn_ca (goodIn_r _ [6, 7, 8, 9, 10, 5, 11, 12, 13, 14, 15, 16, 17, 18, 19, 20, 21, 22, 23, 24, 25, 26, 27, 28, 29, 30, 31, 32, 33, 34, 35, 36, 37, 38, 39, 40, 41, 42, 43, 44, 45, 46, 47, 48, 49, 50, 51, 52, 53, 54, 55, 56, 57, 58, 59, 60, 61, 62, 63, 64, 65, 66, 67, 68, 69, 70, 71, 72, 73, 74, 75, 76, 77, 78, 79, 80, 81, 82, 83, 84, 85, 86, 87, 88, 89, 90, 91, 92, 93, 94, 95, 96, 97, 98, 99, 100, 101, 102, 103, 104, 105, 106, 107, 108, 109, 110, 111, 112, 113, 114, 115, 116, 117, 118, 119, 120, 121, 122, 123, 124, 125, 126, 127, 128] (by decide +kernel) (by decide +kernel)) (goodIn_sub (fun _ h => List.mem_cons_of_mem _ (List.mem_append_right _ h)) (by decide +kernel))
set_option maxRecDepth 20000 in
theorem gL_current_X0_current : GoodIn wsL_current (wsV RL 57 RX0 yX0_current wsX0_current) := goodIn_app (goodIn_of _ (by decide +kernel)) ggL_current_X0_current
theorem dL_current_0 : decode cL_current 0 = .ok (.aload_n 2, 1) := by decide +kernel
theorem dL_current_1 : decode cL_current 1 = .ok (.iconst 0, 1) := by decide +kernel
theorem dL_current_2 : decode cL_current 2 = .ok (.aload_n 0, 1) := by decide +kernel
theorem dL_current_3 : decode cL_current 3 = .ok (.iload_n 1, 1) := by decide +kernel
theorem dL_current_4 : decode cL_current 4 = .ok (.invokevirtual 57, 3) := by decide +kernel
theorem dL_current_7 : decode cL_current 7 = .ok (.i2l, 1) := by decide +kernel
theorem dL_current_8 : decode cL_current 8 = .ok (.lastore, 1) := by decide +kernel
theorem dL_current_9 : decode cL_current 9 = .ok (.goto 6, 3) := by decide +kernel
theorem dL_current_12 : decode cL_current 12 = .ok (.astore_n 3, 1) := by decide +kernel
theorem dL_current_13 : decode cL_current 13 = .ok (.iconst 1, 1) := by decide +kernel
theorem dL_current_14 : decode cL_current 14 = .ok (.ireturn, 1) := by decide +kernel
theorem dL_current_15 : decode cL_current 15 = .ok (.iconst 0, 1) := by decide +kernel
theorem dL_current_16 : decode cL_current 16 = .ok (.ireturn, 1) := by decide +kernel
set_option maxRecDepth 20000 in
theorem ggL_load_X0_load : GoodIn wsL_load wsX0_load := goodIn_ca (goodIn_r _ [6, 7, 8, 9, 5, 10, 11, 12, 13, 14, 15, 16, 17, 18, 19, 20, 21, 22, 23, 24, 25, 26, 27, 28, 29, 30, 31, 32, 33, 34, 35, 36, 37, 38, 39, 40, 41, 42, 43, 44, 45, 46, 47, 48, 49, 50, 51, 52, 53, 54, 55, 56, 57, 58, 59, 60, 61, 62, 63, 64, 65, 66, 67, 68, 69, 70, 71, 72, 73, 74, 75, 76, 77, 78, 79, 80, 81, 82, 83, 84, 85, 86, 87, 88, 89, 90, 91, 92, 93, 94, 95, 96, 97, 98, 99, 100, 101, 102, 103, 104, 105, 106, 107, 108, 109, 110, 111, 112, 113, 114, 115, 116, 117, 118, 119, 120, 121, 122, 123, 124, 125, 126, 127] (by decide +kernel) (by decide +kernel)) (goodIn_sub (fun _ h => List.mem_cons_of_mem _ (List.mem_append_right _ h)) (by decide +kernel))
set_option maxRecDepth 20000 in
theorem gL_load_X0_load : GoodIn wsL_load (wsV RL 60 RX0 yX0_load wsX0_load) := goodIn_app (goodIn_of _ (by decide +kernel)) ggL_load_X0_load
theorem dL_load_0 : decode cL_load 0 = .ok (.aload_n 2, 1) := by decide +kernel
theorem dL_load_1 : decode cL_load 1 = .ok (.iconst 0, 1) := by decide +kernel
theorem dL_load_2 : decode cL_load 2 = .ok (.aload_n 0, 1) := by decide +kernel
theorem dL_load_3 : decode cL_load 3 = .ok (.iload_n 1, 1) := by decide +kernel
theorem dL_load_4 : decode cL_load 4 = .ok (.invokevirtual 60, 3) := by decide +kernel
theorem dL_load_7 : decode cL_load 7 = .ok (.i2l, 1) := by decide +kernel
theorem dL_load_8 : decode cL_load 8 = .ok (.lastore, 1) := by decide +kernel
theorem dL_load_9 : decode cL_load 9 = .ok (.goto 6, 3) := by decide +kernel
theorem dL_load_12 : decode cL_load 12 = .ok (.astore_n 3, 1) := by decide +kernel
theorem dL_load_13 : decode cL_load 13 = .ok (.iconst 1, 1) := by decide +kernel
theorem dL_load_14 : decode cL_load 14 = .ok (.ireturn, 1) := by decide +kernel
theorem dL_load_15 : decode cL_load 15 = .ok (.iconst 0, 1) := by decide +kernel
theorem dL_load_16 : decode cL_load 16 = .ok (.ireturn, 1) := by decide +kernel
set_option maxRecDepth 20000 in
theorem ggL_fairLevel_X0_fairLevel : GoodIn wsL_fairLevel wsX0_fairLevel := goodIn_ca (goodIn_r _ [6, 7, 8, 9, 5, 10, 11, 12, 13, 14, 15, 16, 17, 18, 19, 20, 21, 22, 23, 24, 25, 26, 27, 28, 29, 30, 31, 32, 33, 34, 35, 36, 37, 38, 39, 40, 41, 42, 43, 44, 45, 46, 47, 48, 49, 50, 51, 52, 53, 54, 55, 56, 57, 58, 59, 60, 61, 62, 63, 64, 65, 66, 67, 68, 69, 70, 71, 72, 73, 74, 75, 76, 77, 78, 79, 80, 81, 82, 83, 84, 85, 86, 87, 88, 89, 90, 91, 92, 93, 94, 95, 96, 97, 98, 99, 100, 101, 102, 103, 104, 105, 106, 107, 108, 109, 110, 111, 112, 113, 114, 115, 116, 117, 118, 119, 120, 121, 122, 123, 124, 125, 126, 127, 128, 129, 130, 131, 132, 133, 134, 135] (by decide +kernel) (by decide +kernel)) (goodIn_sub (fun _ h => List.mem_cons_of_mem _ (List.mem_append_right _ h)) (by decide +kernel))
set_option maxRecDepth 20000 in
theorem gL_fairLevel_X0_fairLevel : GoodIn wsL_fairLevel (wsV RL 63 RX0 yX0_fairLevel wsX0_fairLevel) := goodIn_app (goodIn_of _ (by decide +kernel)) ggL_fairLevel_X0_fairLevel
theorem dL_fairLevel_0 : decode cL_fairLevel 0 = .ok (.aload_n 2, 1) := by decide +kernel
theorem dL_fairLevel_1 : decode cL_fairLevel 1 = .ok (.iconst 0, 1) := by decide +kernel
theorem dL_fairLevel_2 : decode cL_fairLevel 2 = .ok (.aload_n 0, 1) := by decide +kernel
theorem dL_fairLevel_3 : decode cL_fairLevel 3 = .ok (.iload_n 1, 1) := by decide +kernel
theorem dL_fairLevel_4 : decode cL_fairLevel 4 = .ok (.invokevirtual 63, 3) := by decide +kernel
theorem dL_fairLevel_7 : decode cL_fairLevel 7 = .ok (.i2l, 1) := by decide +kernel
theorem dL_fairLevel_8 : decode cL_fairLevel 8 = .ok (.lastore, 1) := by decide +kernel
theorem dL_fairLevel_9 : decode cL_fairLevel 9 = .ok (.goto 6, 3) := by decide +kernel
theorem dL_fairLevel_12 : decode cL_fairLevel 12 = .ok (.astore_n 3, 1) := by decide +kernel
theorem dL_fairLevel_13 : decode cL_fairLevel 13 = .ok (.iconst 1, 1) := by decide +kernel
theorem dL_fairLevel_14 : decode cL_fairLevel 14 = .ok (.ireturn, 1) := by decide +kernel
theorem dL_fairLevel_15 : decode cL_fairLevel 15 = .ok (.iconst 0, 1) := by decide +kernel
theorem dL_fairLevel_16 : decode cL_fairLevel 16 = .ok (.ireturn, 1) := by decide +kernel
set_option maxRecDepth 20000 in
theorem ggL_law_X0_init : GoodIn wsL_law wsX0_init := goodIn_r _ [9, 10, 11, 12, 13, 14, 15, 16, 17, 18, 19, 20, 21, 22, 23, 24, 25, 479, 480, 481, 482, 483, 484, 485, 486, 487, 488, 489, 490, 491, 492, 493, 494] (by decide +kernel) (by decide +kernel)
set_option maxRecDepth 20000 in
theorem gL_law_X0_init : GoodIn wsL_law (wsX0_init) := ggL_law_X0_init
set_option maxRecDepth 20000 in
theorem ggL_law_X1_init : GoodIn wsL_law wsX1_init := goodIn_r _ [28, 29, 11, 12, 13, 30, 31, 32, 33, 34, 35, 36, 37, 38, 39, 40, 495, 496, 497, 498, 499, 500, 501, 502, 503, 504, 505, 506, 507, 508, 509, 510] (by decide +kernel) (by decide +kernel)
set_option maxRecDepth 20000 in
theorem gL_law_X1_init : GoodIn wsL_law (wsX1_init) := ggL_law_X1_init
set_option maxRecDepth 20000 in
theorem ggL_law_L_point : GoodIn wsL_law wsL_point := goodIn_ca (goodIn_ca (goodIn_r _ [44, 45, 46, 47, 48, 49, 2, 50, 51, 52, 53, 14, 15, 16, 54, 55, 56, 57, 58, 59, 60, 61, 479, 480, 481, 482, 483, 484, 485, 486, 487, 488, 489, 490, 491, 492, 493, 494] (by decide +kernel) (by decide +kernel)) (goodIn_sub (fun _ h => List.mem_append_left _ (List.mem_append_left _ (List.mem_append_right _ h))) (by decide +kernel))) (goodIn_sub (fun _ h => List.mem_append_left _ (List.mem_append_right _ h)) (by decide +kernel))
set_option maxRecDepth 20000 in
theorem gL_law_L_point : GoodIn wsL_law (va_wsS RL 70 yL_point wsL_point) := goodIn_app (goodIn_of _ (by decide +kernel)) ggL_law_L_point
set_option maxRecDepth 20000 in
theorem ggL_law_X1_point : GoodIn wsL_law wsX1_point := goodIn_r _ [65, 66, 67, 30, 31, 68, 69, 5, 70, 495, 496, 497, 498, 499, 500, 501, 502, 503, 504, 505, 506, 507, 508, 509, 510] (by decide +kernel) (by decide +kernel)
set_option maxRecDepth 20000 in
theorem gL_law_X1_point : GoodIn wsL_law (wsV RL 75 RX1 yX1_point wsX1_point) := goodIn_app (goodIn_of _ (by decide +kernel)) ggL_law_X1_point
set_option maxRecDepth 20000 in
theorem ggL_law_X1_thrown : GoodIn wsL_law wsX1_thrown := goodIn_r _ [74, 67, 495, 496, 497, 498, 499, 500, 501, 502, 503, 504, 505, 506, 507, 508, 509, 510] (by decide +kernel) (by decide +kernel)
set_option maxRecDepth 20000 in
theorem gL_law_X1_thrown : GoodIn wsL_law (wsV RL 76 RX1 yX1_thrown wsX1_thrown) := goodIn_app (goodIn_of _ (by decide +kernel)) ggL_law_X1_thrown
set_option maxRecDepth 20000 in
theorem ggL_law_L_fuse : GoodIn wsL_law wsL_fuse := goodIn_ca (goodIn_r _ [77, 45, 78, 79, 80, 2, 81, 23, 54, 55, 56, 57, 58, 59, 60, 61, 479, 480, 481, 482, 483, 484, 485, 486, 487, 488, 489, 490, 491, 492, 493, 494] (by decide +kernel) (by decide +kernel)) (goodIn_sub (fun _ h => List.mem_append_left _ (List.mem_append_right _ h)) (by decide +kernel))
set_option maxRecDepth 20000 in
theorem gL_law_L_fuse : GoodIn wsL_law (va_wsS RL 80 yL_fuse wsL_fuse) := goodIn_app (goodIn_of _ (by decide +kernel)) ggL_law_L_fuse
set_option maxRecDepth 20000 in
theorem ggL_law_X1_fuse : GoodIn wsL_law wsX1_fuse := goodIn_r _ [85, 67, 37, 68, 69, 5, 70, 495, 496, 497, 498, 499, 500, 501, 502, 503, 504, 505, 506, 507, 508, 509, 510] (by decide +kernel) (by decide +kernel)
set_option maxRecDepth 20000 in
theorem gL_law_X1_fuse : GoodIn wsL_law (wsV RL 82 RX1 yX1_fuse wsX1_fuse) := goodIn_app (goodIn_of _ (by decide +kernel)) ggL_law_X1_fuse
set_option maxRecDepth 20000 in
theorem ggL_law_L_balance : GoodIn wsL_law wsL_balance := goodIn_ca (goodIn_r _ [88, 45, 89, 90, 91, 2, 92, 24, 59, 60, 61, 57, 58, 479, 480, 481, 482, 483, 484, 485, 486, 487, 488, 489, 490, 491, 492, 493, 494] (by decide +kernel) (by decide +kernel)) (goodIn_sub (fun _ h => List.mem_append_left _ (List.mem_append_right _ h)) (by decide +kernel))
set_option maxRecDepth 20000 in
theorem gL_law_L_balance : GoodIn wsL_law (va_wsS RL 83 yL_balance wsL_balance) := goodIn_app (goodIn_of _ (by decide +kernel)) ggL_law_L_balance
set_option maxRecDepth 20000 in
theorem ggL_law_X1_balance : GoodIn wsL_law wsX1_balance := goodIn_r _ [96, 67, 38, 68, 69, 5, 70, 495, 496, 497, 498, 499, 500, 501, 502, 503, 504, 505, 506, 507, 508, 509, 510] (by decide +kernel) (by decide +kernel)
set_option maxRecDepth 20000 in
theorem gL_law_X1_balance : GoodIn wsL_law (wsV RL 86 RX1 yX1_balance wsX1_balance) := goodIn_app (goodIn_of _ (by decide +kernel)) ggL_law_X1_balance
set_option maxRecDepth 20000 in
theorem ggL_law_L_rule : GoodIn wsL_law wsL_rule := goodIn_ca (goodIn_r _ [99, 45, 100, 101, 102, 2, 103, 25, 59, 60, 61, 57, 58, 479, 480, 481, 482, 483, 484, 485, 486, 487, 488, 489, 490, 491, 492, 493, 494] (by decide +kernel) (by decide +kernel)) (goodIn_sub (fun _ h => List.mem_append_left _ (List.mem_append_right _ h)) (by decide +kernel))
set_option maxRecDepth 20000 in
theorem gL_law_L_rule : GoodIn wsL_law (va_wsS RL 87 yL_rule wsL_rule) := goodIn_app (goodIn_of _ (by decide +kernel)) ggL_law_L_rule
set_option maxRecDepth 20000 in
theorem ggL_law_X1_rule : GoodIn wsL_law wsX1_rule := goodIn_r _ [107, 67, 108, 68, 69, 5, 70, 495, 496, 497, 498, 499, 500, 501, 502, 503, 504, 505, 506, 507, 508, 509, 510] (by decide +kernel) (by decide +kernel)
set_option maxRecDepth 20000 in
theorem gL_law_X1_rule : GoodIn wsL_law (wsV RL 89 RX1 yX1_rule wsX1_rule) := goodIn_app (goodIn_of _ (by decide +kernel)) ggL_law_X1_rule
set_option maxRecDepth 20000 in
theorem ggL_law_L_plugIn : GoodIn wsL_law wsL_plugIn := goodIn_ca (goodIn_ca (goodIn_ca (goodIn_r _ [111, 112, 45, 46, 113, 114, 115, 2, 116, 51, 52, 16, 17, 18, 117, 118, 119, 120, 121, 122, 123, 53, 59, 60, 61, 57, 58, 124, 125, 126, 127, 128, 129, 130, 131, 132, 133, 134, 135, 15, 136, 137, 138, 139, 140, 141, 142, 143, 14, 144, 145, 146, 147, 148, 149, 150, 151, 152, 153, 479, 480, 481, 482, 483, 484, 485, 486, 487, 488, 489, 490, 491, 492, 493, 494] (by decide +kernel) (by decide +kernel)) (goodIn_sub (fun _ h => List.mem_append_left _ (List.mem_append_left _ (List.mem_append_right _ h))) (by decide +kernel))) (goodIn_sub (fun _ h => List.mem_append_right _ h) (by decide +kernel))) (goodIn_sub (fun _ h => List.mem_append_left _ (List.mem_append_right _ h)) (by decide +kernel))
set_option maxRecDepth 20000 in
theorem gL_law_L_plugIn : GoodIn wsL_law (va_wsS RL 90 yL_plugIn wsL_plugIn) := goodIn_app (goodIn_of _ (by decide +kernel)) ggL_law_L_plugIn
set_option maxRecDepth 20000 in
theorem ggL_law_X1_plugIn : GoodIn wsL_law wsX1_plugIn := goodIn_r _ [157, 33, 67, 34, 35, 36, 158, 159, 160, 161, 5, 162, 66, 68, 69, 70, 163, 164, 165, 166, 167, 168, 169, 170, 171, 172, 173, 174, 31, 175, 176, 177, 178, 30, 179, 180, 181, 495, 496, 497, 498, 499, 500, 501, 502, 503, 504, 505, 506, 507, 508, 509, 510] (by decide +kernel) (by decide +kernel)
set_option maxRecDepth 20000 in
theorem gL_law_X1_plugIn : GoodIn wsL_law (wsV RL 93 RX1 yX1_plugIn wsX1_plugIn) := goodIn_app (goodIn_of _ (by decide +kernel)) ggL_law_X1_plugIn
set_option maxRecDepth 20000 in
theorem ggL_law_L_takeOut : GoodIn wsL_law wsL_takeOut := goodIn_ca (goodIn_ca (goodIn_r _ [184, 112, 46, 185, 186, 187, 2, 188, 16, 189, 118, 119, 120, 121, 122, 123, 53, 190, 191, 192, 193, 51, 52, 124, 125, 126, 127, 479, 480, 481, 482, 483, 484, 485, 486, 487, 488, 489, 490, 491, 492, 493, 494] (by decide +kernel) (by decide +kernel)) (goodIn_sub (fun _ h => List.mem_append_right _ h) (by decide +kernel))) (goodIn_sub (fun _ h => List.mem_append_left _ (List.mem_append_left _ (List.mem_append_right _ h))) (by decide +kernel))
set_option maxRecDepth 20000 in
theorem gL_law_L_takeOut : GoodIn wsL_law (va_wsS RL 94 yL_takeOut wsL_takeOut) := goodIn_app (goodIn_of _ (by decide +kernel)) ggL_law_L_takeOut
set_option maxRecDepth 20000 in
theorem ggL_law_X1_takeOut : GoodIn wsL_law wsX1_takeOut := goodIn_r _ [197, 33, 67, 198, 34, 159, 160, 161, 5, 162, 66, 68, 69, 70, 495, 496, 497, 498, 499, 500, 501, 502, 503, 504, 505, 506, 507, 508, 509, 510] (by decide +kernel) (by decide +kernel)
set_option maxRecDepth 20000 in
theorem gL_law_X1_takeOut : GoodIn wsL_law (wsV RL 96 RX1 yX1_takeOut wsX1_takeOut) := goodIn_app (goodIn_of _ (by decide +kernel)) ggL_law_X1_takeOut
set_option maxRecDepth 20000 in
theorem ggL_law_L_appetite : GoodIn wsL_law wsL_appetite := goodIn_ca (goodIn_ca (goodIn_ca (goodIn_r _ [201, 112, 45, 46, 202, 203, 204, 2, 205, 17, 118, 119, 120, 121, 122, 123, 53, 59, 60, 61, 57, 58, 190, 191, 192, 193, 51, 52, 124, 125, 126, 127, 16, 479, 480, 481, 482, 483, 484, 485, 486, 487, 488, 489, 490, 491, 492, 493, 494] (by decide +kernel) (by decide +kernel)) (goodIn_sub (fun _ h => List.mem_append_right _ h) (by decide +kernel))) (goodIn_sub (fun _ h => List.mem_append_left _ (List.mem_append_right _ h)) (by decide +kernel))) (goodIn_sub (fun _ h => List.mem_append_left _ (List.mem_append_left _ (List.mem_append_right _ h))) (by decide +kernel))
set_option maxRecDepth 20000 in
theorem gL_law_L_appetite : GoodIn wsL_law (va_wsS RL 97 yL_appetite wsL_appetite) := goodIn_app (goodIn_of _ (by decide +kernel)) ggL_law_L_appetite
set_option maxRecDepth 20000 in
theorem ggL_law_X1_appetite : GoodIn wsL_law wsX1_appetite := goodIn_r _ [209, 33, 67, 35, 159, 160, 161, 5, 162, 66, 68, 69, 70, 495, 496, 497, 498, 499, 500, 501, 502, 503, 504, 505, 506, 507, 508, 509, 510] (by decide +kernel) (by decide +kernel)
set_option maxRecDepth 20000 in
theorem gL_law_X1_appetite : GoodIn wsL_law (wsV RL 99 RX1 yX1_appetite wsX1_appetite) := goodIn_app (goodIn_of _ (by decide +kernel)) ggL_law_X1_appetite
set_option maxRecDepth 20000 in
theorem ggL_law_L_stay : GoodIn wsL_law wsL_stay := goodIn_ca (goodIn_ca (goodIn_ca (goodIn_r _ [212, 112, 45, 46, 213, 214, 215, 2, 216, 18, 117, 148, 149, 138, 150, 118, 119, 120, 121, 122, 123, 53, 59, 60, 61, 57, 58, 190, 191, 192, 193, 51, 52, 124, 125, 126, 127, 16, 144, 145, 146, 147, 479, 480, 481, 482, 483, 484, 485, 486, 487, 488, 489, 490, 491, 492, 493, 494] (by decide +kernel) (by decide +kernel)) (goodIn_sub (fun _ h => List.mem_append_right _ h) (by decide +kernel))) (goodIn_sub (fun _ h => List.mem_append_left _ (List.mem_append_right _ h)) (by decide +kernel))) (goodIn_sub (fun _ h => List.mem_append_left _ (List.mem_append_left _ (List.mem_append_right _ h))) (by decide +kernel))
set_option maxRecDepth 20000 in
theorem gL_law_L_stay : GoodIn wsL_law (va_wsS RL 100 yL_stay wsL_stay) := goodIn_app (goodIn_of _ (by decide +kernel)) ggL_law_L_stay
set_option maxRecDepth 20000 in
theorem ggL_law_X1_stay : GoodIn wsL_law wsX1_stay := goodIn_r _ [220, 33, 67, 36, 158, 159, 160, 161, 5, 162, 66, 68, 69, 70, 167, 168, 169, 170, 495, 496, 497, 498, 499, 500, 501, 502, 503, 504, 505, 506, 507, 508, 509, 510] (by decide +kernel) (by decide +kernel)
set_option maxRecDepth 20000 in
theorem gL_law_X1_stay : GoodIn wsL_law (wsV RL 102 RX1 yX1_stay wsX1_stay) := goodIn_app (goodIn_of _ (by decide +kernel)) ggL_law_X1_stay
set_option maxRecDepth 20000 in
theorem ggL_law_L_step : GoodIn wsL_law wsL_step := goodIn_ca (goodIn_r _ [223, 45, 224, 225, 226, 2, 227, 228, 117, 59, 60, 61, 57, 58, 229, 230, 231, 232, 25, 233, 234, 235, 236, 53, 20, 19, 22, 237, 238, 239, 240, 16, 136, 137, 138, 139, 241, 242, 243, 244, 18, 140, 141, 142, 143, 14, 151, 152, 153, 132, 133, 134, 135, 15, 17, 245, 246, 247, 248, 249, 250, 251, 252, 253, 254, 255, 256, 23, 257, 258, 259, 260, 261, 262, 263, 264, 265, 266, 267, 268, 21, 269, 270, 271, 272, 128, 129, 130, 131, 144, 145, 146, 147, 148, 149, 150, 273, 274, 275, 276, 24, 277, 278, 279, 280, 281, 282, 283, 284, 285, 286, 287, 288, 289, 290, 291, 292, 479, 480, 481, 482, 483, 484, 485, 486, 487, 488, 489, 490, 491, 492, 493, 494] (by decide +kernel) (by decide +kernel)) (goodIn_sub (fun _ h => List.mem_append_left _ (List.mem_append_right _ h)) (by decide +kernel))
set_option maxRecDepth 20000 in
theorem gL_law_L_step : GoodIn wsL_law (va_wsS RL 103 yL_step wsL_step) := goodIn_app (goodIn_of _ (by decide +kernel)) ggL_law_L_step
set_option maxRecDepth 20000 in
theorem ggL_law_X1_step : GoodIn wsL_law wsX1_step := goodIn_r _ [296, 67, 66, 39, 34, 158, 297, 68, 69, 5, 70, 298, 299, 300, 301, 40, 108, 38, 302, 303, 304, 305, 306, 307, 308, 309, 33, 175, 176, 177, 178, 30, 179, 180, 181, 171, 172, 173, 174, 31, 35, 167, 168, 169, 170, 36, 310, 311, 312, 313, 163, 164, 165, 166, 314, 315, 316, 317, 37, 318, 319, 320, 321, 322, 323, 324, 325, 326, 327, 328, 329, 330, 331, 332, 333, 334, 335, 336, 337, 495, 496, 497, 498, 499, 500, 501, 502, 503, 504, 505, 506, 507, 508, 509, 510] (by decide +kernel) (by decide +kernel)
set_option maxRecDepth 20000 in
theorem gL_law_X1_step : GoodIn wsL_law (wsV RL 105 RX1 yX1_step wsX1_step) := goodIn_app (goodIn_of _ (by decide +kernel)) ggL_law_X1_step
set_option maxRecDepth 20000 in
theorem ggL_law_X0_time : GoodIn wsL_law wsX0_time := goodIn_r _ [341, 117, 479, 480, 481, 482, 483, 484, 485, 486, 487, 488, 489, 490, 491, 492, 493, 494] (by decide +kernel) (by decide +kernel)
set_option maxRecDepth 20000 in
theorem gL_law_X0_time : GoodIn wsL_law (wsV RL 106 RX0 yX0_time wsX0_time) := goodIn_app (goodIn_of _ (by decide +kernel)) ggL_law_X0_time
set_option maxRecDepth 20000 in
theorem ggL_law_X1_time : GoodIn wsL_law wsX1_time := goodIn_r _ [345, 67, 158, 495, 496, 497, 498, 499, 500, 501, 502, 503, 504, 505, 506, 507, 508, 509, 510] (by decide +kernel) (by decide +kernel)
set_option maxRecDepth 20000 in
theorem gL_law_X1_time : GoodIn wsL_law (wsV RL 109 RX1 yX1_time wsX1_time) := goodIn_app (goodIn_of _ (by decide +kernel)) ggL_law_X1_time
set_option maxRecDepth 20000 in
theorem ggL_law_X0_points : GoodIn wsL_law wsX0_points := goodIn_r _ [349, 53, 479, 480, 481, 482, 483, 484, 485, 486, 487, 488, 489, 490, 491, 492, 493, 494] (by decide +kernel) (by decide +kernel)
set_option maxRecDepth 20000 in
theorem gL_law_X0_points : GoodIn wsL_law (wsV RL 110 RX0 yX0_points wsX0_points) := goodIn_app (goodIn_of _ (by decide +kernel)) ggL_law_X0_points
set_option maxRecDepth 20000 in
theorem ggL_law_X1_points : GoodIn wsL_law wsX1_points := goodIn_r _ [353, 67, 66, 495, 496, 497, 498, 499, 500, 501, 502, 503, 504, 505, 506, 507, 508, 509, 510] (by decide +kernel) (by decide +kernel)
set_option maxRecDepth 20000 in
theorem gL_law_X1_points : GoodIn wsL_law (wsV RL 113 RX1 yX1_points wsX1_points) := goodIn_app (goodIn_of _ (by decide +kernel)) ggL_law_X1_points
set_option maxRecDepth 20000 in
theorem ggL_law_X0_taken : GoodIn wsL_law wsX0_taken := goodIn_r _ [357, 228, 479, 480, 481, 482, 483, 484, 485, 486, 487, 488, 489, 490, 491, 492, 493, 494] (by decide +kernel) (by decide +kernel)
set_option maxRecDepth 20000 in
theorem gL_law_X0_taken : GoodIn wsL_law (wsV RL 114 RX0 yX0_taken wsX0_taken) := goodIn_app (goodIn_of _ (by decide +kernel)) ggL_law_X0_taken
set_option maxRecDepth 20000 in
theorem ggL_law_X1_taken : GoodIn wsL_law wsX1_taken := goodIn_r _ [361, 67, 297, 495, 496, 497, 498, 499, 500, 501, 502, 503, 504, 505, 506, 507, 508, 509, 510] (by decide +kernel) (by decide +kernel)
set_option maxRecDepth 20000 in
theorem gL_law_X1_taken : GoodIn wsL_law (wsV RL 117 RX1 yX1_taken wsX1_taken) := goodIn_app (goodIn_of _ (by decide +kernel)) ggL_law_X1_taken
set_option maxRecDepth 20000 in
theorem ggL_law_X0_served : GoodIn wsL_law wsX0_served := goodIn_r _ [365, 189, 479, 480, 481, 482, 483, 484, 485, 486, 487, 488, 489, 490, 491, 492, 493, 494] (by decide +kernel) (by decide +kernel)
set_option maxRecDepth 20000 in
theorem gL_law_X0_served : GoodIn wsL_law (wsV RL 118 RX0 yX0_served wsX0_served) := goodIn_app (goodIn_of _ (by decide +kernel)) ggL_law_X0_served
set_option maxRecDepth 20000 in
theorem ggL_law_X1_served : GoodIn wsL_law wsX1_served := goodIn_r _ [369, 67, 198, 495, 496, 497, 498, 499, 500, 501, 502, 503, 504, 505, 506, 507, 508, 509, 510] (by decide +kernel) (by decide +kernel)
set_option maxRecDepth 20000 in
theorem gL_law_X1_served : GoodIn wsL_law (wsV RL 121 RX1 yX1_served wsX1_served) := goodIn_app (goodIn_of _ (by decide +kernel)) ggL_law_X1_served
set_option maxRecDepth 20000 in
theorem ggL_law_L_need : GoodIn wsL_law wsL_need := goodIn_ca (goodIn_r _ [372, 112, 373, 374, 375, 2, 376, 16, 118, 119, 120, 121, 122, 123, 53, 479, 480, 481, 482, 483, 484, 485, 486, 487, 488, 489, 490, 491, 492, 493, 494] (by decide +kernel) (by decide +kernel)) (goodIn_sub (fun _ h => List.mem_append_right _ h) (by decide +kernel))
set_option maxRecDepth 20000 in
theorem gL_law_L_need : GoodIn wsL_law (va_wsS RL 122 yL_need wsL_need) := goodIn_app (goodIn_of _ (by decide +kernel)) ggL_law_L_need
set_option maxRecDepth 20000 in
theorem ggL_law_X1_need : GoodIn wsL_law wsX1_need := goodIn_r _ [380, 33, 34, 159, 160, 161, 5, 162, 66, 67, 68, 69, 70, 495, 496, 497, 498, 499, 500, 501, 502, 503, 504, 505, 506, 507, 508, 509, 510] (by decide +kernel) (by decide +kernel)
set_option maxRecDepth 20000 in
theorem gL_law_X1_need : GoodIn wsL_law (wsV RL 124 RX1 yX1_need wsX1_need) := goodIn_app (goodIn_of _ (by decide +kernel)) ggL_law_X1_need
set_option maxRecDepth 20000 in
theorem ggL_law_L_left : GoodIn wsL_law wsL_left := goodIn_ca (goodIn_r _ [383, 112, 384, 385, 386, 2, 387, 118, 119, 120, 121, 122, 123, 53, 124, 125, 126, 127, 16, 144, 145, 146, 147, 18, 117, 148, 149, 138, 150, 479, 480, 481, 482, 483, 484, 485, 486, 487, 488, 489, 490, 491, 492, 493, 494] (by decide +kernel) (by decide +kernel)) (goodIn_sub (fun _ h => List.mem_append_right _ h) (by decide +kernel))
set_option maxRecDepth 20000 in
theorem gL_law_L_left : GoodIn wsL_law (va_wsS RL 125 yL_left wsL_left) := goodIn_app (goodIn_of _ (by decide +kernel)) ggL_law_L_left
set_option maxRecDepth 20000 in
theorem ggL_law_X1_left : GoodIn wsL_law wsX1_left := goodIn_r _ [391, 33, 159, 160, 161, 5, 162, 66, 67, 68, 69, 70, 167, 168, 169, 170, 36, 158, 495, 496, 497, 498, 499, 500, 501, 502, 503, 504, 505, 506, 507, 508, 509, 510] (by decide +kernel) (by decide +kernel)
set_option maxRecDepth 20000 in
theorem gL_law_X1_left : GoodIn wsL_law (wsV RL 127 RX1 yX1_left wsX1_left) := goodIn_app (goodIn_of _ (by decide +kernel)) ggL_law_X1_left
set_option maxRecDepth 20000 in
theorem ggL_law_L_laxity : GoodIn wsL_law wsL_laxity := goodIn_ca (goodIn_ca (goodIn_r _ [394, 112, 46, 395, 396, 397, 2, 398, 118, 119, 120, 121, 122, 123, 53, 190, 191, 192, 193, 51, 52, 124, 125, 126, 127, 16, 128, 129, 130, 131, 132, 133, 134, 135, 15, 17, 136, 137, 138, 139, 140, 141, 142, 143, 14, 144, 145, 146, 147, 18, 117, 148, 149, 150, 151, 152, 153, 479, 480, 481, 482, 483, 484, 485, 486, 487, 488, 489, 490, 491, 492, 493, 494] (by decide +kernel) (by decide +kernel)) (goodIn_sub (fun _ h => List.mem_append_right _ h) (by decide +kernel))) (goodIn_sub (fun _ h => List.mem_append_left _ (List.mem_append_left _ (List.mem_append_right _ h))) (by decide +kernel))
set_option maxRecDepth 20000 in
theorem gL_law_L_laxity : GoodIn wsL_law (va_wsS RL 128 yL_laxity wsL_laxity) := goodIn_app (goodIn_of _ (by decide +kernel)) ggL_law_L_laxity
set_option maxRecDepth 20000 in
theorem ggL_law_X1_laxity : GoodIn wsL_law wsX1_laxity := goodIn_r _ [402, 33, 67, 159, 160, 161, 5, 162, 66, 68, 69, 70, 163, 164, 165, 166, 34, 167, 168, 169, 170, 36, 158, 171, 172, 173, 174, 31, 35, 175, 176, 177, 178, 30, 179, 180, 181, 495, 496, 497, 498, 499, 500, 501, 502, 503, 504, 505, 506, 507, 508, 509, 510] (by decide +kernel) (by decide +kernel)
set_option maxRecDepth 20000 in
theorem gL_law_X1_laxity : GoodIn wsL_law (wsV RL 130 RX1 yX1_laxity wsX1_laxity) := goodIn_app (goodIn_of _ (by decide +kernel)) ggL_law_X1_laxity
set_option maxRecDepth 20000 in
theorem ggL_law_L_reach : GoodIn wsL_law wsL_reach := goodIn_ca (goodIn_r _ [405, 112, 406, 407, 408, 2, 409, 118, 119, 120, 121, 122, 123, 53, 237, 238, 239, 240, 16, 136, 137, 138, 139, 241, 242, 243, 244, 18, 117, 140, 141, 142, 143, 14, 151, 152, 153, 132, 133, 134, 135, 15, 17, 479, 480, 481, 482, 483, 484, 485, 486, 487, 488, 489, 490, 491, 492, 493, 494] (by decide +kernel) (by decide +kernel)) (goodIn_sub (fun _ h => List.mem_append_right _ h) (by decide +kernel))
set_option maxRecDepth 20000 in
theorem gL_law_L_reach : GoodIn wsL_law (va_wsS RL 131 yL_reach wsL_reach) := goodIn_app (goodIn_of _ (by decide +kernel)) ggL_law_L_reach
set_option maxRecDepth 20000 in
theorem ggL_law_X1_reach : GoodIn wsL_law wsX1_reach := goodIn_r _ [413, 159, 160, 161, 5, 162, 66, 67, 68, 69, 70, 306, 307, 308, 309, 34, 33, 175, 176, 177, 178, 30, 179, 180, 181, 171, 172, 173, 174, 31, 35, 167, 168, 169, 170, 36, 158, 495, 496, 497, 498, 499, 500, 501, 502, 503, 504, 505, 506, 507, 508, 509, 510] (by decide +kernel) (by decide +kernel)
set_option maxRecDepth 20000 in
theorem gL_law_X1_reach : GoodIn wsL_law (wsV RL 133 RX1 yX1_reach wsX1_reach) := goodIn_app (goodIn_of _ (by decide +kernel)) ggL_law_X1_reach
set_option maxRecDepth 20000 in
theorem ggL_law_L_current : GoodIn wsL_law wsL_current := goodIn_ca (goodIn_r _ [416, 112, 417, 418, 419, 2, 420, 20, 118, 119, 120, 121, 122, 123, 53, 229, 230, 231, 232, 25, 233, 234, 235, 236, 19, 22, 237, 238, 239, 240, 16, 136, 137, 138, 139, 241, 242, 243, 244, 18, 117, 140, 141, 142, 143, 14, 151, 152, 153, 132, 133, 134, 135, 15, 17, 245, 246, 247, 248, 249, 250, 251, 252, 253, 254, 255, 256, 23, 257, 258, 259, 260, 261, 262, 263, 264, 265, 266, 267, 268, 21, 269, 270, 271, 272, 128, 129, 130, 131, 144, 145, 146, 147, 148, 149, 150, 273, 274, 275, 276, 24, 277, 278, 279, 280, 281, 282, 283, 284, 285, 286, 287, 288, 479, 480, 481, 482, 483, 484, 485, 486, 487, 488, 489, 490, 491, 492, 493, 494] (by decide +kernel) (by decide +kernel)) (goodIn_sub (fun _ h => List.mem_append_right _ h) (by decide +kernel))
set_option maxRecDepth 20000 in
theorem gL_law_L_current : GoodIn wsL_law (va_wsS RL 134 yL_current wsL_current) := goodIn_app (goodIn_of _ (by decide +kernel)) ggL_law_L_current
set_option maxRecDepth 20000 in
theorem ggL_law_X1_current : GoodIn wsL_law wsX1_current := goodIn_r _ [424, 39, 159, 160, 161, 5, 162, 66, 67, 68, 69, 70, 298, 299, 300, 301, 40, 108, 38, 302, 303, 304, 305, 306, 307, 308, 309, 34, 33, 175, 176, 177, 178, 30, 179, 180, 181, 171, 172, 173, 174, 31, 35, 167, 168, 169, 170, 36, 158, 310, 311, 312, 313, 163, 164, 165, 166, 314, 315, 316, 317, 37, 318, 319, 320, 321, 322, 323, 324, 325, 326, 327, 328, 329, 330, 331, 332, 333, 334, 335, 336, 337, 495, 496, 497, 498, 499, 500, 501, 502, 503, 504, 505, 506, 507, 508, 509, 510] (by decide +kernel) (by decide +kernel)
set_option maxRecDepth 20000 in
theorem gL_law_X1_current : GoodIn wsL_law (wsV RL 136 RX1 yX1_current wsX1_current) := goodIn_app (goodIn_of _ (by decide +kernel)) ggL_law_X1_current
set_option maxRecDepth 20000 in
theorem ggL_law_L_load : GoodIn wsL_law wsL_load := goodIn_ca (goodIn_r _ [427, 45, 428, 429, 430, 2, 431, 22, 54, 55, 56, 57, 58, 229, 230, 231, 232, 25, 233, 234, 235, 236, 53, 20, 19, 237, 238, 239, 240, 16, 136, 137, 138, 139, 241, 242, 243, 244, 18, 117, 140, 141, 142, 143, 14, 151, 152, 153, 132, 133, 134, 135, 15, 17, 245, 246, 247, 248, 249, 250, 251, 252, 253, 254, 255, 256, 23, 257, 258, 259, 260, 261, 262, 263, 264, 265, 266, 267, 268, 21, 269, 270, 271, 272, 128, 129, 130, 131, 144, 145, 146, 147, 148, 149, 150, 273, 274, 275, 276, 24, 277, 278, 279, 280, 281, 282, 283, 284, 285, 286, 287, 288, 479, 480, 481, 482, 483, 484, 485, 486, 487, 488, 489, 490, 491, 492, 493, 494] (by decide +kernel) (by decide +kernel)) (goodIn_sub (fun _ h => List.mem_append_left _ (List.mem_append_right _ h)) (by decide +kernel))
set_option maxRecDepth 20000 in
theorem gL_law_L_load : GoodIn wsL_law (va_wsS RL 137 yL_load wsL_load) := goodIn_app (goodIn_of _ (by decide +kernel)) ggL_law_L_load
set_option maxRecDepth 20000 in
theorem ggL_law_X1_load : GoodIn wsL_law wsX1_load := goodIn_r _ [435, 67, 68, 69, 5, 70, 298, 299, 300, 301, 39, 40, 108, 38, 302, 303, 304, 305, 66, 306, 307, 308, 309, 34, 33, 175, 176, 177, 178, 30, 179, 180, 181, 171, 172, 173, 174, 31, 35, 167, 168, 169, 170, 36, 158, 310, 311, 312, 313, 163, 164, 165, 166, 314, 315, 316, 317, 37, 318, 319, 320, 321, 322, 323, 324, 325, 326, 327, 328, 329, 330, 331, 332, 333, 334, 335, 336, 337, 495, 496, 497, 498, 499, 500, 501, 502, 503, 504, 505, 506, 507, 508, 509, 510] (by decide +kernel) (by decide +kernel)
set_option maxRecDepth 20000 in
theorem gL_law_X1_load : GoodIn wsL_law (wsV RL 139 RX1 yX1_load wsX1_load) := goodIn_app (goodIn_of _ (by decide +kernel)) ggL_law_X1_load
set_option maxRecDepth 20000 in
theorem ggL_law_X0_imbalance : GoodIn wsL_law wsX0_imbalance := goodIn_r _ [439, 229, 230, 231, 2, 232, 25, 233, 234, 235, 236, 53, 20, 19, 22, 237, 238, 239, 240, 16, 136, 137, 138, 139, 241, 242, 243, 244, 18, 117, 140, 141, 142, 143, 14, 151, 152, 153, 132, 133, 134, 135, 15, 17, 245, 246, 247, 248, 249, 250, 251, 252, 253, 254, 255, 256, 23, 257, 258, 259, 260, 261, 262, 263, 264, 265, 266, 267, 268, 21, 269, 270, 271, 272, 128, 129, 130, 131, 144, 145, 146, 147, 148, 149, 150, 273, 274, 275, 276, 24, 277, 278, 279, 280, 281, 282, 283, 284, 285, 286, 287, 288, 479, 480, 481, 482, 483, 484, 485, 486, 487, 488, 489, 490, 491, 492, 493, 494] (by decide +kernel) (by decide +kernel)
set_option maxRecDepth 20000 in
theorem gL_law_X0_imbalance : GoodIn wsL_law (wsV RL 140 RX0 yX0_imbalance wsX0_imbalance) := goodIn_app (goodIn_of _ (by decide +kernel)) ggL_law_X0_imbalance
set_option maxRecDepth 20000 in
theorem ggL_law_X1_imbalance : GoodIn wsL_law wsX1_imbalance := goodIn_r _ [443, 67, 298, 299, 300, 5, 301, 39, 40, 108, 38, 302, 303, 304, 305, 66, 306, 307, 308, 309, 34, 33, 175, 176, 177, 178, 30, 179, 180, 181, 171, 172, 173, 174, 31, 35, 167, 168, 169, 170, 36, 158, 310, 311, 312, 313, 163, 164, 165, 166, 314, 315, 316, 317, 37, 318, 319, 320, 321, 322, 323, 324, 325, 326, 327, 328, 329, 330, 331, 332, 333, 334, 335, 336, 337, 495, 496, 497, 498, 499, 500, 501, 502, 503, 504, 505, 506, 507, 508, 509, 510] (by decide +kernel) (by decide +kernel)
set_option maxRecDepth 20000 in
theorem gL_law_X1_imbalance : GoodIn wsL_law (wsV RL 143 RX1 yX1_imbalance wsX1_imbalance) := goodIn_app (goodIn_of _ (by decide +kernel)) ggL_law_X1_imbalance
set_option maxRecDepth 20000 in
theorem ggL_law_X0_held : GoodIn wsL_law wsX0_held := goodIn_r _ [447, 53, 20, 19, 229, 230, 231, 2, 232, 25, 233, 234, 235, 236, 22, 237, 238, 239, 240, 16, 136, 137, 138, 139, 241, 242, 243, 244, 18, 117, 140, 141, 142, 143, 14, 151, 152, 153, 132, 133, 134, 135, 15, 17, 245, 246, 247, 248, 249, 250, 251, 252, 253, 254, 255, 256, 23, 257, 258, 259, 260, 261, 262, 263, 264, 265, 266, 267, 268, 21, 269, 270, 271, 272, 128, 129, 130, 131, 144, 145, 146, 147, 148, 149, 150, 273, 274, 275, 276, 24, 277, 278, 279, 280, 281, 282, 283, 284, 285, 286, 287, 288, 479, 480, 481, 482, 483, 484, 485, 486, 487, 488, 489, 490, 491, 492, 493, 494] (by decide +kernel) (by decide +kernel)
set_option maxRecDepth 20000 in
theorem gL_law_X0_held : GoodIn wsL_law (wsV RL 144 RX0 yX0_held wsX0_held) := goodIn_app (goodIn_of _ (by decide +kernel)) ggL_law_X0_held
set_option maxRecDepth 20000 in
theorem ggL_law_X1_held : GoodIn wsL_law wsX1_held := goodIn_r _ [451, 67, 66, 39, 298, 299, 300, 5, 301, 40, 108, 38, 302, 303, 304, 305, 306, 307, 308, 309, 34, 33, 175, 176, 177, 178, 30, 179, 180, 181, 171, 172, 173, 174, 31, 35, 167, 168, 169, 170, 36, 158, 310, 311, 312, 313, 163, 164, 165, 166, 314, 315, 316, 317, 37, 318, 319, 320, 321, 322, 323, 324, 325, 326, 327, 328, 329, 330, 331, 332, 333, 334, 335, 336, 337, 495, 496, 497, 498, 499, 500, 501, 502, 503, 504, 505, 506, 507, 508, 509, 510] (by decide +kernel) (by decide +kernel)
set_option maxRecDepth 20000 in
theorem gL_law_X1_held : GoodIn wsL_law (wsV RL 147 RX1 yX1_held wsX1_held) := goodIn_app (goodIn_of _ (by decide +kernel)) ggL_law_X1_held
set_option maxRecDepth 20000 in
theorem ggL_law_L_fairLevel : GoodIn wsL_law wsL_fairLevel := goodIn_ca (goodIn_r _ [454, 45, 455, 456, 457, 2, 458, 23, 54, 55, 56, 57, 58, 229, 230, 231, 232, 25, 233, 234, 235, 236, 53, 20, 19, 22, 237, 238, 239, 240, 16, 136, 137, 138, 139, 241, 242, 243, 244, 18, 117, 140, 141, 142, 143, 14, 151, 152, 153, 132, 133, 134, 135, 15, 17, 245, 246, 247, 248, 249, 250, 251, 252, 253, 254, 255, 256, 257, 258, 259, 260, 261, 262, 263, 264, 265, 266, 267, 268, 21, 269, 270, 271, 272, 128, 129, 130, 131, 144, 145, 146, 147, 148, 149, 150, 273, 274, 275, 276, 24, 277, 278, 279, 280, 281, 282, 283, 284, 285, 286, 287, 288, 459, 460, 461, 462, 463, 464, 465, 466, 479, 480, 481, 482, 483, 484, 485, 486, 487, 488, 489, 490, 491, 492, 493, 494] (by decide +kernel) (by decide +kernel)) (goodIn_sub (fun _ h => List.mem_append_left _ (List.mem_append_right _ h)) (by decide +kernel))
set_option maxRecDepth 20000 in
theorem gL_law_L_fairLevel : GoodIn wsL_law (va_wsS RL 148 yL_fairLevel wsL_fairLevel) := goodIn_app (goodIn_of _ (by decide +kernel)) ggL_law_L_fairLevel
set_option maxRecDepth 20000 in
theorem ggL_law_X1_fairLevel : GoodIn wsL_law wsX1_fairLevel := goodIn_r _ [470, 67, 37, 66, 30, 39, 68, 69, 5, 70, 298, 299, 300, 301, 40, 108, 38, 302, 303, 304, 305, 306, 307, 308, 309, 34, 33, 175, 176, 177, 178, 179, 180, 181, 171, 172, 173, 174, 31, 35, 167, 168, 169, 170, 36, 158, 310, 311, 312, 313, 163, 164, 165, 166, 314, 315, 316, 317, 318, 319, 320, 321, 322, 323, 324, 325, 326, 327, 328, 329, 330, 331, 332, 333, 334, 335, 336, 337, 495, 496, 497, 498, 499, 500, 501, 502, 503, 504, 505, 506, 507, 508, 509, 510] (by decide +kernel) (by decide +kernel)
set_option maxRecDepth 20000 in
theorem gL_law_X1_fairLevel : GoodIn wsL_law (wsV RL 150 RX1 yX1_fairLevel wsX1_fairLevel) := goodIn_app (goodIn_of _ (by decide +kernel)) ggL_law_X1_fairLevel
set_option maxRecDepth 20000 in
theorem ggL_law_X0_canBeReady : GoodIn wsL_law wsX0_canBeReady := goodIn_r _ [474, 53, 16, 128, 129, 130, 2, 131, 132, 133, 134, 135, 15, 17, 136, 137, 138, 139, 140, 141, 142, 143, 14, 144, 145, 146, 147, 18, 117, 148, 149, 150, 151, 152, 153, 479, 480, 481, 482, 483, 484, 485, 486, 487, 488, 489, 490, 491, 492, 493, 494] (by decide +kernel) (by decide +kernel)
set_option maxRecDepth 20000 in
theorem gL_law_X0_canBeReady : GoodIn wsL_law (wsV RL 151 RX0 yX0_canBeReady wsX0_canBeReady) := goodIn_app (goodIn_of _ (by decide +kernel)) ggL_law_X0_canBeReady
set_option maxRecDepth 20000 in
theorem ggL_law_X1_canBeReady : GoodIn wsL_law wsX1_canBeReady := goodIn_r _ [478, 67, 66, 33, 34, 163, 164, 165, 5, 166, 167, 168, 169, 170, 36, 158, 171, 172, 173, 174, 31, 35, 175, 176, 177, 178, 30, 179, 180, 181, 495, 496, 497, 498, 499, 500, 501, 502, 503, 504, 505, 506, 507, 508, 509, 510] (by decide +kernel) (by decide +kernel)
set_option maxRecDepth 20000 in
theorem gL_law_X1_canBeReady : GoodIn wsL_law (wsV RL 155 RX1 yX1_canBeReady wsX1_canBeReady) := goodIn_app (goodIn_of _ (by decide +kernel)) ggL_law_X1_canBeReady
theorem dL_law_0 : decode cL_law 0 = .ok (.new 8, 3) := by decide +kernel
theorem dL_law_3 : decode cL_law 3 = .ok (.dup, 1) := by decide +kernel
theorem dL_law_4 : decode cL_law 4 = .ok (.invokespecial 66, 3) := by decide +kernel
theorem dL_law_7 : decode cL_law 7 = .ok (.astore_n 1, 1) := by decide +kernel
theorem dL_law_8 : decode cL_law 8 = .ok (.new 67, 3) := by decide +kernel
theorem dL_law_11 : decode cL_law 11 = .ok (.dup, 1) := by decide +kernel
theorem dL_law_12 : decode cL_law 12 = .ok (.invokespecial 69, 3) := by decide +kernel
theorem dL_law_15 : decode cL_law 15 = .ok (.astore_n 2, 1) := by decide +kernel
theorem dL_law_16 : decode cL_law 16 = .ok (.iconst 1, 1) := by decide +kernel
theorem dL_law_17 : decode cL_law 17 = .ok (.newarray .long, 2) := by decide +kernel
theorem dL_law_19 : decode cL_law 19 = .ok (.astore_n 3, 1) := by decide +kernel
theorem dL_law_20 : decode cL_law 20 = .ok (.iconst 0, 1) := by decide +kernel
theorem dL_law_21 : decode cL_law 21 = .ok (.istore 4, 2) := by decide +kernel
theorem dL_law_23 : decode cL_law 23 = .ok (.iload 4, 2) := by decide +kernel
theorem dL_law_25 : decode cL_law 25 = .ok (.aload_n 0, 1) := by decide +kernel
theorem dL_law_26 : decode cL_law 26 = .ok (.arraylength, 1) := by decide +kernel
theorem dL_law_27 : decode cL_law 27 = .ok (.iconst 5, 1) := by decide +kernel
theorem dL_law_28 : decode cL_law 28 = .ok (.isub, 1) := by decide +kernel
theorem dL_law_29 : decode cL_law 29 = .ok (.if_icmp .gt 1192, 3) := by decide +kernel
theorem dL_law_32 : decode cL_law 32 = .ok (.aload_n 0, 1) := by decide +kernel
theorem dL_law_33 : decode cL_law 33 = .ok (.iload 4, 2) := by decide +kernel
theorem dL_law_35 : decode cL_law 35 = .ok (.iaload, 1) := by decide +kernel
theorem dL_law_36 : decode cL_law 36 = .ok (.bipush 31, 2) := by decide +kernel
theorem dL_law_38 : decode cL_law 38 = .ok (.iand, 1) := by decide +kernel
theorem dL_law_39 : decode cL_law 39 = .ok (.tableswitch 1176 0 22 #[105, 173, 241, 297, 353, 445, 501, 569, 637, 693, 706, 719, 732, 745, 801, 857, 913, 969, 1025, 1081, 1094, 1107, 1163], 105) := by decide +kernel
theorem dL_law_144 : decode cL_law 144 = .ok (.aload_n 1, 1) := by decide +kernel
theorem dL_law_145 : decode cL_law 145 = .ok (.aload_n 0, 1) := by decide +kernel
theorem dL_law_146 : decode cL_law 146 = .ok (.iload 4, 2) := by decide +kernel
theorem dL_law_148 : decode cL_law 148 = .ok (.iconst 1, 1) := by decide +kernel
theorem dL_law_149 : decode cL_law 149 = .ok (.iadd, 1) := by decide +kernel
theorem dL_law_150 : decode cL_law 150 = .ok (.iaload, 1) := by decide +kernel
theorem dL_law_151 : decode cL_law 151 = .ok (.aload_n 0, 1) := by decide +kernel
theorem dL_law_152 : decode cL_law 152 = .ok (.iload 4, 2) := by decide +kernel
theorem dL_law_154 : decode cL_law 154 = .ok (.iconst 2, 1) := by decide +kernel
theorem dL_law_155 : decode cL_law 155 = .ok (.iadd, 1) := by decide +kernel
theorem dL_law_156 : decode cL_law 156 = .ok (.iaload, 1) := by decide +kernel
theorem dL_law_157 : decode cL_law 157 = .ok (.aload_n 3, 1) := by decide +kernel
theorem dL_law_158 : decode cL_law 158 = .ok (.invokestatic 70, 3) := by decide +kernel
theorem dL_law_161 : decode cL_law 161 = .ok (.istore 5, 2) := by decide +kernel
theorem dL_law_163 : decode cL_law 163 = .ok (.aload_n 2, 1) := by decide +kernel
theorem dL_law_164 : decode cL_law 164 = .ok (.aload_n 0, 1) := by decide +kernel
theorem dL_law_165 : decode cL_law 165 = .ok (.iload 4, 2) := by decide +kernel
theorem dL_law_167 : decode cL_law 167 = .ok (.iconst 1, 1) := by decide +kernel
theorem dL_law_168 : decode cL_law 168 = .ok (.iadd, 1) := by decide +kernel
theorem dL_law_169 : decode cL_law 169 = .ok (.iaload, 1) := by decide +kernel
theorem dL_law_170 : decode cL_law 170 = .ok (.aload_n 0, 1) := by decide +kernel
theorem dL_law_171 : decode cL_law 171 = .ok (.iload 4, 2) := by decide +kernel
theorem dL_law_173 : decode cL_law 173 = .ok (.iconst 2, 1) := by decide +kernel
theorem dL_law_174 : decode cL_law 174 = .ok (.iadd, 1) := by decide +kernel
theorem dL_law_175 : decode cL_law 175 = .ok (.iaload, 1) := by decide +kernel
theorem dL_law_176 : decode cL_law 176 = .ok (.invokevirtual 75, 3) := by decide +kernel
theorem dL_law_179 : decode cL_law 179 = .ok (.istore 6, 2) := by decide +kernel
theorem dL_law_181 : decode cL_law 181 = .ok (.aload_n 2, 1) := by decide +kernel
theorem dL_law_182 : decode cL_law 182 = .ok (.invokevirtual 76, 3) := by decide +kernel
theorem dL_law_185 : decode cL_law 185 = .ok (.iload 5, 2) := by decide +kernel
theorem dL_law_187 : decode cL_law 187 = .ok (.if_icmp .eq 5, 3) := by decide +kernel
theorem dL_law_190 : decode cL_law 190 = .ok (.iconst 0, 1) := by decide +kernel
theorem dL_law_191 : decode cL_law 191 = .ok (.ireturn, 1) := by decide +kernel
theorem dL_law_192 : decode cL_law 192 = .ok (.iload 5, 2) := by decide +kernel
theorem dL_law_194 : decode cL_law 194 = .ok (.ifCond .ne 15, 3) := by decide +kernel
theorem dL_law_197 : decode cL_law 197 = .ok (.aload_n 3, 1) := by decide +kernel
theorem dL_law_198 : decode cL_law 198 = .ok (.iconst 0, 1) := by decide +kernel
theorem dL_law_199 : decode cL_law 199 = .ok (.laload, 1) := by decide +kernel
theorem dL_law_200 : decode cL_law 200 = .ok (.iload 6, 2) := by decide +kernel
theorem dL_law_202 : decode cL_law 202 = .ok (.i2l, 1) := by decide +kernel
theorem dL_law_203 : decode cL_law 203 = .ok (.lcmp, 1) := by decide +kernel
theorem dL_law_204 : decode cL_law 204 = .ok (.ifCond .eq 5, 3) := by decide +kernel
theorem dL_law_207 : decode cL_law 207 = .ok (.iconst 0, 1) := by decide +kernel
theorem dL_law_208 : decode cL_law 208 = .ok (.ireturn, 1) := by decide +kernel
theorem dL_law_209 : decode cL_law 209 = .ok (.goto 1006, 3) := by decide +kernel
theorem dL_law_212 : decode cL_law 212 = .ok (.aload_n 1, 1) := by decide +kernel
theorem dL_law_213 : decode cL_law 213 = .ok (.aload_n 0, 1) := by decide +kernel
theorem dL_law_214 : decode cL_law 214 = .ok (.iload 4, 2) := by decide +kernel
theorem dL_law_216 : decode cL_law 216 = .ok (.iconst 1, 1) := by decide +kernel
theorem dL_law_217 : decode cL_law 217 = .ok (.iadd, 1) := by decide +kernel
theorem dL_law_218 : decode cL_law 218 = .ok (.iaload, 1) := by decide +kernel
theorem dL_law_219 : decode cL_law 219 = .ok (.aload_n 0, 1) := by decide +kernel
theorem dL_law_220 : decode cL_law 220 = .ok (.iload 4, 2) := by decide +kernel
theorem dL_law_222 : decode cL_law 222 = .ok (.iconst 2, 1) := by decide +kernel
theorem dL_law_223 : decode cL_law 223 = .ok (.iadd, 1) := by decide +kernel
theorem dL_law_224 : decode cL_law 224 = .ok (.iaload, 1) := by decide +kernel
theorem dL_law_225 : decode cL_law 225 = .ok (.aload_n 3, 1) := by decide +kernel
theorem dL_law_226 : decode cL_law 226 = .ok (.invokestatic 80, 3) := by decide +kernel
theorem dL_law_229 : decode cL_law 229 = .ok (.istore 5, 2) := by decide +kernel
theorem dL_law_231 : decode cL_law 231 = .ok (.aload_n 2, 1) := by decide +kernel
theorem dL_law_232 : decode cL_law 232 = .ok (.aload_n 0, 1) := by decide +kernel
theorem dL_law_233 : decode cL_law 233 = .ok (.iload 4, 2) := by decide +kernel
theorem dL_law_235 : decode cL_law 235 = .ok (.iconst 1, 1) := by decide +kernel
theorem dL_law_236 : decode cL_law 236 = .ok (.iadd, 1) := by decide +kernel
theorem dL_law_237 : decode cL_law 237 = .ok (.iaload, 1) := by decide +kernel
theorem dL_law_238 : decode cL_law 238 = .ok (.aload_n 0, 1) := by decide +kernel
theorem dL_law_239 : decode cL_law 239 = .ok (.iload 4, 2) := by decide +kernel
theorem dL_law_241 : decode cL_law 241 = .ok (.iconst 2, 1) := by decide +kernel
theorem dL_law_242 : decode cL_law 242 = .ok (.iadd, 1) := by decide +kernel
theorem dL_law_243 : decode cL_law 243 = .ok (.iaload, 1) := by decide +kernel
theorem dL_law_244 : decode cL_law 244 = .ok (.invokevirtual 82, 3) := by decide +kernel
theorem dL_law_247 : decode cL_law 247 = .ok (.istore 6, 2) := by decide +kernel
theorem dL_law_249 : decode cL_law 249 = .ok (.aload_n 2, 1) := by decide +kernel
theorem dL_law_250 : decode cL_law 250 = .ok (.invokevirtual 76, 3) := by decide +kernel
theorem dL_law_253 : decode cL_law 253 = .ok (.iload 5, 2) := by decide +kernel
theorem dL_law_255 : decode cL_law 255 = .ok (.if_icmp .eq 5, 3) := by decide +kernel
theorem dL_law_258 : decode cL_law 258 = .ok (.iconst 0, 1) := by decide +kernel
theorem dL_law_259 : decode cL_law 259 = .ok (.ireturn, 1) := by decide +kernel
theorem dL_law_260 : decode cL_law 260 = .ok (.iload 5, 2) := by decide +kernel
theorem dL_law_262 : decode cL_law 262 = .ok (.ifCond .ne 15, 3) := by decide +kernel
theorem dL_law_265 : decode cL_law 265 = .ok (.aload_n 3, 1) := by decide +kernel
theorem dL_law_266 : decode cL_law 266 = .ok (.iconst 0, 1) := by decide +kernel
theorem dL_law_267 : decode cL_law 267 = .ok (.laload, 1) := by decide +kernel
theorem dL_law_268 : decode cL_law 268 = .ok (.iload 6, 2) := by decide +kernel
theorem dL_law_270 : decode cL_law 270 = .ok (.i2l, 1) := by decide +kernel
theorem dL_law_271 : decode cL_law 271 = .ok (.lcmp, 1) := by decide +kernel
theorem dL_law_272 : decode cL_law 272 = .ok (.ifCond .eq 5, 3) := by decide +kernel
theorem dL_law_275 : decode cL_law 275 = .ok (.iconst 0, 1) := by decide +kernel
theorem dL_law_276 : decode cL_law 276 = .ok (.ireturn, 1) := by decide +kernel
theorem dL_law_277 : decode cL_law 277 = .ok (.goto 938, 3) := by decide +kernel
theorem dL_law_280 : decode cL_law 280 = .ok (.aload_n 1, 1) := by decide +kernel
theorem dL_law_281 : decode cL_law 281 = .ok (.aload_n 0, 1) := by decide +kernel
theorem dL_law_282 : decode cL_law 282 = .ok (.iload 4, 2) := by decide +kernel
theorem dL_law_284 : decode cL_law 284 = .ok (.iconst 1, 1) := by decide +kernel
theorem dL_law_285 : decode cL_law 285 = .ok (.iadd, 1) := by decide +kernel
theorem dL_law_286 : decode cL_law 286 = .ok (.iaload, 1) := by decide +kernel
theorem dL_law_287 : decode cL_law 287 = .ok (.aload_n 3, 1) := by decide +kernel
theorem dL_law_288 : decode cL_law 288 = .ok (.invokestatic 83, 3) := by decide +kernel
theorem dL_law_291 : decode cL_law 291 = .ok (.istore 5, 2) := by decide +kernel
theorem dL_law_293 : decode cL_law 293 = .ok (.aload_n 2, 1) := by decide +kernel
theorem dL_law_294 : decode cL_law 294 = .ok (.aload_n 0, 1) := by decide +kernel
theorem dL_law_295 : decode cL_law 295 = .ok (.iload 4, 2) := by decide +kernel
theorem dL_law_297 : decode cL_law 297 = .ok (.iconst 1, 1) := by decide +kernel
theorem dL_law_298 : decode cL_law 298 = .ok (.iadd, 1) := by decide +kernel
theorem dL_law_299 : decode cL_law 299 = .ok (.iaload, 1) := by decide +kernel
theorem dL_law_300 : decode cL_law 300 = .ok (.invokevirtual 86, 3) := by decide +kernel
theorem dL_law_303 : decode cL_law 303 = .ok (.istore 6, 2) := by decide +kernel
theorem dL_law_305 : decode cL_law 305 = .ok (.aload_n 2, 1) := by decide +kernel
theorem dL_law_306 : decode cL_law 306 = .ok (.invokevirtual 76, 3) := by decide +kernel
theorem dL_law_309 : decode cL_law 309 = .ok (.iload 5, 2) := by decide +kernel
theorem dL_law_311 : decode cL_law 311 = .ok (.if_icmp .eq 5, 3) := by decide +kernel
theorem dL_law_314 : decode cL_law 314 = .ok (.iconst 0, 1) := by decide +kernel
theorem dL_law_315 : decode cL_law 315 = .ok (.ireturn, 1) := by decide +kernel
theorem dL_law_316 : decode cL_law 316 = .ok (.iload 5, 2) := by decide +kernel
theorem dL_law_318 : decode cL_law 318 = .ok (.ifCond .ne 15, 3) := by decide +kernel
theorem dL_law_321 : decode cL_law 321 = .ok (.aload_n 3, 1) := by decide +kernel
theorem dL_law_322 : decode cL_law 322 = .ok (.iconst 0, 1) := by decide +kernel
theorem dL_law_323 : decode cL_law 323 = .ok (.laload, 1) := by decide +kernel
theorem dL_law_324 : decode cL_law 324 = .ok (.iload 6, 2) := by decide +kernel
theorem dL_law_326 : decode cL_law 326 = .ok (.i2l, 1) := by decide +kernel
theorem dL_law_327 : decode cL_law 327 = .ok (.lcmp, 1) := by decide +kernel
theorem dL_law_328 : decode cL_law 328 = .ok (.ifCond .eq 5, 3) := by decide +kernel
theorem dL_law_331 : decode cL_law 331 = .ok (.iconst 0, 1) := by decide +kernel
theorem dL_law_332 : decode cL_law 332 = .ok (.ireturn, 1) := by decide +kernel
theorem dL_law_333 : decode cL_law 333 = .ok (.goto 882, 3) := by decide +kernel
theorem dL_law_336 : decode cL_law 336 = .ok (.aload_n 1, 1) := by decide +kernel
theorem dL_law_337 : decode cL_law 337 = .ok (.aload_n 0, 1) := by decide +kernel
theorem dL_law_338 : decode cL_law 338 = .ok (.iload 4, 2) := by decide +kernel
theorem dL_law_340 : decode cL_law 340 = .ok (.iconst 1, 1) := by decide +kernel
theorem dL_law_341 : decode cL_law 341 = .ok (.iadd, 1) := by decide +kernel
theorem dL_law_342 : decode cL_law 342 = .ok (.iaload, 1) := by decide +kernel
theorem dL_law_343 : decode cL_law 343 = .ok (.aload_n 3, 1) := by decide +kernel
theorem dL_law_344 : decode cL_law 344 = .ok (.invokestatic 87, 3) := by decide +kernel
theorem dL_law_347 : decode cL_law 347 = .ok (.istore 5, 2) := by decide +kernel
theorem dL_law_349 : decode cL_law 349 = .ok (.aload_n 2, 1) := by decide +kernel
theorem dL_law_350 : decode cL_law 350 = .ok (.aload_n 0, 1) := by decide +kernel
theorem dL_law_351 : decode cL_law 351 = .ok (.iload 4, 2) := by decide +kernel
theorem dL_law_353 : decode cL_law 353 = .ok (.iconst 1, 1) := by decide +kernel
theorem dL_law_354 : decode cL_law 354 = .ok (.iadd, 1) := by decide +kernel
theorem dL_law_355 : decode cL_law 355 = .ok (.iaload, 1) := by decide +kernel
theorem dL_law_356 : decode cL_law 356 = .ok (.invokevirtual 89, 3) := by decide +kernel
theorem dL_law_359 : decode cL_law 359 = .ok (.istore 6, 2) := by decide +kernel
theorem dL_law_361 : decode cL_law 361 = .ok (.aload_n 2, 1) := by decide +kernel
theorem dL_law_362 : decode cL_law 362 = .ok (.invokevirtual 76, 3) := by decide +kernel
theorem dL_law_365 : decode cL_law 365 = .ok (.iload 5, 2) := by decide +kernel
theorem dL_law_367 : decode cL_law 367 = .ok (.if_icmp .eq 5, 3) := by decide +kernel
theorem dL_law_370 : decode cL_law 370 = .ok (.iconst 0, 1) := by decide +kernel
theorem dL_law_371 : decode cL_law 371 = .ok (.ireturn, 1) := by decide +kernel
theorem dL_law_372 : decode cL_law 372 = .ok (.iload 5, 2) := by decide +kernel
theorem dL_law_374 : decode cL_law 374 = .ok (.ifCond .ne 15, 3) := by decide +kernel
theorem dL_law_377 : decode cL_law 377 = .ok (.aload_n 3, 1) := by decide +kernel
theorem dL_law_378 : decode cL_law 378 = .ok (.iconst 0, 1) := by decide +kernel
theorem dL_law_379 : decode cL_law 379 = .ok (.laload, 1) := by decide +kernel
theorem dL_law_380 : decode cL_law 380 = .ok (.iload 6, 2) := by decide +kernel
theorem dL_law_382 : decode cL_law 382 = .ok (.i2l, 1) := by decide +kernel
theorem dL_law_383 : decode cL_law 383 = .ok (.lcmp, 1) := by decide +kernel
theorem dL_law_384 : decode cL_law 384 = .ok (.ifCond .eq 5, 3) := by decide +kernel
theorem dL_law_387 : decode cL_law 387 = .ok (.iconst 0, 1) := by decide +kernel
theorem dL_law_388 : decode cL_law 388 = .ok (.ireturn, 1) := by decide +kernel
theorem dL_law_389 : decode cL_law 389 = .ok (.goto 826, 3) := by decide +kernel
theorem dL_law_392 : decode cL_law 392 = .ok (.aload_n 1, 1) := by decide +kernel
theorem dL_law_393 : decode cL_law 393 = .ok (.aload_n 0, 1) := by decide +kernel
theorem dL_law_394 : decode cL_law 394 = .ok (.iload 4, 2) := by decide +kernel
theorem dL_law_396 : decode cL_law 396 = .ok (.iconst 1, 1) := by decide +kernel
theorem dL_law_397 : decode cL_law 397 = .ok (.iadd, 1) := by decide +kernel
theorem dL_law_398 : decode cL_law 398 = .ok (.iaload, 1) := by decide +kernel
theorem dL_law_399 : decode cL_law 399 = .ok (.aload_n 0, 1) := by decide +kernel
theorem dL_law_400 : decode cL_law 400 = .ok (.iload 4, 2) := by decide +kernel
theorem dL_law_402 : decode cL_law 402 = .ok (.iconst 2, 1) := by decide +kernel
theorem dL_law_403 : decode cL_law 403 = .ok (.iadd, 1) := by decide +kernel
theorem dL_law_404 : decode cL_law 404 = .ok (.iaload, 1) := by decide +kernel
theorem dL_law_405 : decode cL_law 405 = .ok (.aload_n 0, 1) := by decide +kernel
theorem dL_law_406 : decode cL_law 406 = .ok (.iload 4, 2) := by decide +kernel
theorem dL_law_408 : decode cL_law 408 = .ok (.iconst 3, 1) := by decide +kernel
theorem dL_law_409 : decode cL_law 409 = .ok (.iadd, 1) := by decide +kernel
theorem dL_law_410 : decode cL_law 410 = .ok (.iaload, 1) := by decide +kernel
theorem dL_law_411 : decode cL_law 411 = .ok (.aload_n 0, 1) := by decide +kernel
theorem dL_law_412 : decode cL_law 412 = .ok (.iload 4, 2) := by decide +kernel
theorem dL_law_414 : decode cL_law 414 = .ok (.iconst 4, 1) := by decide +kernel
theorem dL_law_415 : decode cL_law 415 = .ok (.iadd, 1) := by decide +kernel
theorem dL_law_416 : decode cL_law 416 = .ok (.iaload, 1) := by decide +kernel
theorem dL_law_417 : decode cL_law 417 = .ok (.aload_n 3, 1) := by decide +kernel
theorem dL_law_418 : decode cL_law 418 = .ok (.invokestatic 90, 3) := by decide +kernel
theorem dL_law_421 : decode cL_law 421 = .ok (.istore 5, 2) := by decide +kernel
theorem dL_law_423 : decode cL_law 423 = .ok (.aload_n 2, 1) := by decide +kernel
theorem dL_law_424 : decode cL_law 424 = .ok (.aload_n 0, 1) := by decide +kernel
theorem dL_law_425 : decode cL_law 425 = .ok (.iload 4, 2) := by decide +kernel
theorem dL_law_427 : decode cL_law 427 = .ok (.iconst 1, 1) := by decide +kernel
theorem dL_law_428 : decode cL_law 428 = .ok (.iadd, 1) := by decide +kernel
theorem dL_law_429 : decode cL_law 429 = .ok (.iaload, 1) := by decide +kernel
theorem dL_law_430 : decode cL_law 430 = .ok (.aload_n 0, 1) := by decide +kernel
theorem dL_law_431 : decode cL_law 431 = .ok (.iload 4, 2) := by decide +kernel
theorem dL_law_433 : decode cL_law 433 = .ok (.iconst 2, 1) := by decide +kernel
theorem dL_law_434 : decode cL_law 434 = .ok (.iadd, 1) := by decide +kernel
theorem dL_law_435 : decode cL_law 435 = .ok (.iaload, 1) := by decide +kernel
theorem dL_law_436 : decode cL_law 436 = .ok (.aload_n 0, 1) := by decide +kernel
theorem dL_law_437 : decode cL_law 437 = .ok (.iload 4, 2) := by decide +kernel
theorem dL_law_439 : decode cL_law 439 = .ok (.iconst 3, 1) := by decide +kernel
theorem dL_law_440 : decode cL_law 440 = .ok (.iadd, 1) := by decide +kernel
theorem dL_law_441 : decode cL_law 441 = .ok (.iaload, 1) := by decide +kernel
theorem dL_law_442 : decode cL_law 442 = .ok (.aload_n 0, 1) := by decide +kernel
theorem dL_law_443 : decode cL_law 443 = .ok (.iload 4, 2) := by decide +kernel
theorem dL_law_445 : decode cL_law 445 = .ok (.iconst 4, 1) := by decide +kernel
theorem dL_law_446 : decode cL_law 446 = .ok (.iadd, 1) := by decide +kernel
theorem dL_law_447 : decode cL_law 447 = .ok (.iaload, 1) := by decide +kernel
theorem dL_law_448 : decode cL_law 448 = .ok (.invokevirtual 93, 3) := by decide +kernel
theorem dL_law_451 : decode cL_law 451 = .ok (.istore 6, 2) := by decide +kernel
theorem dL_law_453 : decode cL_law 453 = .ok (.aload_n 2, 1) := by decide +kernel
theorem dL_law_454 : decode cL_law 454 = .ok (.invokevirtual 76, 3) := by decide +kernel
theorem dL_law_457 : decode cL_law 457 = .ok (.iload 5, 2) := by decide +kernel
theorem dL_law_459 : decode cL_law 459 = .ok (.if_icmp .eq 5, 3) := by decide +kernel
theorem dL_law_462 : decode cL_law 462 = .ok (.iconst 0, 1) := by decide +kernel
theorem dL_law_463 : decode cL_law 463 = .ok (.ireturn, 1) := by decide +kernel
theorem dL_law_464 : decode cL_law 464 = .ok (.iload 5, 2) := by decide +kernel
theorem dL_law_466 : decode cL_law 466 = .ok (.ifCond .ne 15, 3) := by decide +kernel
theorem dL_law_469 : decode cL_law 469 = .ok (.aload_n 3, 1) := by decide +kernel
theorem dL_law_470 : decode cL_law 470 = .ok (.iconst 0, 1) := by decide +kernel
theorem dL_law_471 : decode cL_law 471 = .ok (.laload, 1) := by decide +kernel
theorem dL_law_472 : decode cL_law 472 = .ok (.iload 6, 2) := by decide +kernel
theorem dL_law_474 : decode cL_law 474 = .ok (.i2l, 1) := by decide +kernel
theorem dL_law_475 : decode cL_law 475 = .ok (.lcmp, 1) := by decide +kernel
theorem dL_law_476 : decode cL_law 476 = .ok (.ifCond .eq 5, 3) := by decide +kernel
theorem dL_law_479 : decode cL_law 479 = .ok (.iconst 0, 1) := by decide +kernel
theorem dL_law_480 : decode cL_law 480 = .ok (.ireturn, 1) := by decide +kernel
theorem dL_law_481 : decode cL_law 481 = .ok (.goto 734, 3) := by decide +kernel
theorem dL_law_484 : decode cL_law 484 = .ok (.aload_n 1, 1) := by decide +kernel
theorem dL_law_485 : decode cL_law 485 = .ok (.aload_n 0, 1) := by decide +kernel
theorem dL_law_486 : decode cL_law 486 = .ok (.iload 4, 2) := by decide +kernel
theorem dL_law_488 : decode cL_law 488 = .ok (.iconst 1, 1) := by decide +kernel
theorem dL_law_489 : decode cL_law 489 = .ok (.iadd, 1) := by decide +kernel
theorem dL_law_490 : decode cL_law 490 = .ok (.iaload, 1) := by decide +kernel
theorem dL_law_491 : decode cL_law 491 = .ok (.aload_n 3, 1) := by decide +kernel
theorem dL_law_492 : decode cL_law 492 = .ok (.invokestatic 94, 3) := by decide +kernel
theorem dL_law_495 : decode cL_law 495 = .ok (.istore 5, 2) := by decide +kernel
theorem dL_law_497 : decode cL_law 497 = .ok (.aload_n 2, 1) := by decide +kernel
theorem dL_law_498 : decode cL_law 498 = .ok (.aload_n 0, 1) := by decide +kernel
theorem dL_law_499 : decode cL_law 499 = .ok (.iload 4, 2) := by decide +kernel
theorem dL_law_501 : decode cL_law 501 = .ok (.iconst 1, 1) := by decide +kernel
theorem dL_law_502 : decode cL_law 502 = .ok (.iadd, 1) := by decide +kernel
theorem dL_law_503 : decode cL_law 503 = .ok (.iaload, 1) := by decide +kernel
theorem dL_law_504 : decode cL_law 504 = .ok (.invokevirtual 96, 3) := by decide +kernel
theorem dL_law_507 : decode cL_law 507 = .ok (.istore 6, 2) := by decide +kernel
theorem dL_law_509 : decode cL_law 509 = .ok (.aload_n 2, 1) := by decide +kernel
theorem dL_law_510 : decode cL_law 510 = .ok (.invokevirtual 76, 3) := by decide +kernel
theorem dL_law_513 : decode cL_law 513 = .ok (.iload 5, 2) := by decide +kernel
theorem dL_law_515 : decode cL_law 515 = .ok (.if_icmp .eq 5, 3) := by decide +kernel
theorem dL_law_518 : decode cL_law 518 = .ok (.iconst 0, 1) := by decide +kernel
theorem dL_law_519 : decode cL_law 519 = .ok (.ireturn, 1) := by decide +kernel
theorem dL_law_520 : decode cL_law 520 = .ok (.iload 5, 2) := by decide +kernel
theorem dL_law_522 : decode cL_law 522 = .ok (.ifCond .ne 15, 3) := by decide +kernel
theorem dL_law_525 : decode cL_law 525 = .ok (.aload_n 3, 1) := by decide +kernel
theorem dL_law_526 : decode cL_law 526 = .ok (.iconst 0, 1) := by decide +kernel
theorem dL_law_527 : decode cL_law 527 = .ok (.laload, 1) := by decide +kernel
theorem dL_law_528 : decode cL_law 528 = .ok (.iload 6, 2) := by decide +kernel
theorem dL_law_530 : decode cL_law 530 = .ok (.i2l, 1) := by decide +kernel
theorem dL_law_531 : decode cL_law 531 = .ok (.lcmp, 1) := by decide +kernel
theorem dL_law_532 : decode cL_law 532 = .ok (.ifCond .eq 5, 3) := by decide +kernel
theorem dL_law_535 : decode cL_law 535 = .ok (.iconst 0, 1) := by decide +kernel
theorem dL_law_536 : decode cL_law 536 = .ok (.ireturn, 1) := by decide +kernel
theorem dL_law_537 : decode cL_law 537 = .ok (.goto 678, 3) := by decide +kernel
theorem dL_law_540 : decode cL_law 540 = .ok (.aload_n 1, 1) := by decide +kernel
theorem dL_law_541 : decode cL_law 541 = .ok (.aload_n 0, 1) := by decide +kernel
theorem dL_law_542 : decode cL_law 542 = .ok (.iload 4, 2) := by decide +kernel
theorem dL_law_544 : decode cL_law 544 = .ok (.iconst 1, 1) := by decide +kernel
theorem dL_law_545 : decode cL_law 545 = .ok (.iadd, 1) := by decide +kernel
theorem dL_law_546 : decode cL_law 546 = .ok (.iaload, 1) := by decide +kernel
theorem dL_law_547 : decode cL_law 547 = .ok (.aload_n 0, 1) := by decide +kernel
theorem dL_law_548 : decode cL_law 548 = .ok (.iload 4, 2) := by decide +kernel
theorem dL_law_550 : decode cL_law 550 = .ok (.iconst 2, 1) := by decide +kernel
theorem dL_law_551 : decode cL_law 551 = .ok (.iadd, 1) := by decide +kernel
theorem dL_law_552 : decode cL_law 552 = .ok (.iaload, 1) := by decide +kernel
theorem dL_law_553 : decode cL_law 553 = .ok (.aload_n 3, 1) := by decide +kernel
theorem dL_law_554 : decode cL_law 554 = .ok (.invokestatic 97, 3) := by decide +kernel
theorem dL_law_557 : decode cL_law 557 = .ok (.istore 5, 2) := by decide +kernel
theorem dL_law_559 : decode cL_law 559 = .ok (.aload_n 2, 1) := by decide +kernel
theorem dL_law_560 : decode cL_law 560 = .ok (.aload_n 0, 1) := by decide +kernel
theorem dL_law_561 : decode cL_law 561 = .ok (.iload 4, 2) := by decide +kernel
theorem dL_law_563 : decode cL_law 563 = .ok (.iconst 1, 1) := by decide +kernel
theorem dL_law_564 : decode cL_law 564 = .ok (.iadd, 1) := by decide +kernel
theorem dL_law_565 : decode cL_law 565 = .ok (.iaload, 1) := by decide +kernel
theorem dL_law_566 : decode cL_law 566 = .ok (.aload_n 0, 1) := by decide +kernel
theorem dL_law_567 : decode cL_law 567 = .ok (.iload 4, 2) := by decide +kernel
theorem dL_law_569 : decode cL_law 569 = .ok (.iconst 2, 1) := by decide +kernel
theorem dL_law_570 : decode cL_law 570 = .ok (.iadd, 1) := by decide +kernel
theorem dL_law_571 : decode cL_law 571 = .ok (.iaload, 1) := by decide +kernel
theorem dL_law_572 : decode cL_law 572 = .ok (.invokevirtual 99, 3) := by decide +kernel
theorem dL_law_575 : decode cL_law 575 = .ok (.istore 6, 2) := by decide +kernel
theorem dL_law_577 : decode cL_law 577 = .ok (.aload_n 2, 1) := by decide +kernel
theorem dL_law_578 : decode cL_law 578 = .ok (.invokevirtual 76, 3) := by decide +kernel
theorem dL_law_581 : decode cL_law 581 = .ok (.iload 5, 2) := by decide +kernel
theorem dL_law_583 : decode cL_law 583 = .ok (.if_icmp .eq 5, 3) := by decide +kernel
theorem dL_law_586 : decode cL_law 586 = .ok (.iconst 0, 1) := by decide +kernel
theorem dL_law_587 : decode cL_law 587 = .ok (.ireturn, 1) := by decide +kernel
theorem dL_law_588 : decode cL_law 588 = .ok (.iload 5, 2) := by decide +kernel
theorem dL_law_590 : decode cL_law 590 = .ok (.ifCond .ne 15, 3) := by decide +kernel
theorem dL_law_593 : decode cL_law 593 = .ok (.aload_n 3, 1) := by decide +kernel
theorem dL_law_594 : decode cL_law 594 = .ok (.iconst 0, 1) := by decide +kernel
theorem dL_law_595 : decode cL_law 595 = .ok (.laload, 1) := by decide +kernel
theorem dL_law_596 : decode cL_law 596 = .ok (.iload 6, 2) := by decide +kernel
theorem dL_law_598 : decode cL_law 598 = .ok (.i2l, 1) := by decide +kernel
theorem dL_law_599 : decode cL_law 599 = .ok (.lcmp, 1) := by decide +kernel
theorem dL_law_600 : decode cL_law 600 = .ok (.ifCond .eq 5, 3) := by decide +kernel
theorem dL_law_603 : decode cL_law 603 = .ok (.iconst 0, 1) := by decide +kernel
theorem dL_law_604 : decode cL_law 604 = .ok (.ireturn, 1) := by decide +kernel
theorem dL_law_605 : decode cL_law 605 = .ok (.goto 610, 3) := by decide +kernel
theorem dL_law_608 : decode cL_law 608 = .ok (.aload_n 1, 1) := by decide +kernel
theorem dL_law_609 : decode cL_law 609 = .ok (.aload_n 0, 1) := by decide +kernel
theorem dL_law_610 : decode cL_law 610 = .ok (.iload 4, 2) := by decide +kernel
theorem dL_law_612 : decode cL_law 612 = .ok (.iconst 1, 1) := by decide +kernel
theorem dL_law_613 : decode cL_law 613 = .ok (.iadd, 1) := by decide +kernel
theorem dL_law_614 : decode cL_law 614 = .ok (.iaload, 1) := by decide +kernel
theorem dL_law_615 : decode cL_law 615 = .ok (.aload_n 0, 1) := by decide +kernel
theorem dL_law_616 : decode cL_law 616 = .ok (.iload 4, 2) := by decide +kernel
theorem dL_law_618 : decode cL_law 618 = .ok (.iconst 2, 1) := by decide +kernel
theorem dL_law_619 : decode cL_law 619 = .ok (.iadd, 1) := by decide +kernel
theorem dL_law_620 : decode cL_law 620 = .ok (.iaload, 1) := by decide +kernel
theorem dL_law_621 : decode cL_law 621 = .ok (.aload_n 3, 1) := by decide +kernel
theorem dL_law_622 : decode cL_law 622 = .ok (.invokestatic 100, 3) := by decide +kernel
theorem dL_law_625 : decode cL_law 625 = .ok (.istore 5, 2) := by decide +kernel
theorem dL_law_627 : decode cL_law 627 = .ok (.aload_n 2, 1) := by decide +kernel
theorem dL_law_628 : decode cL_law 628 = .ok (.aload_n 0, 1) := by decide +kernel
theorem dL_law_629 : decode cL_law 629 = .ok (.iload 4, 2) := by decide +kernel
theorem dL_law_631 : decode cL_law 631 = .ok (.iconst 1, 1) := by decide +kernel
theorem dL_law_632 : decode cL_law 632 = .ok (.iadd, 1) := by decide +kernel
theorem dL_law_633 : decode cL_law 633 = .ok (.iaload, 1) := by decide +kernel
theorem dL_law_634 : decode cL_law 634 = .ok (.aload_n 0, 1) := by decide +kernel
theorem dL_law_635 : decode cL_law 635 = .ok (.iload 4, 2) := by decide +kernel
theorem dL_law_637 : decode cL_law 637 = .ok (.iconst 2, 1) := by decide +kernel
theorem dL_law_638 : decode cL_law 638 = .ok (.iadd, 1) := by decide +kernel
theorem dL_law_639 : decode cL_law 639 = .ok (.iaload, 1) := by decide +kernel
theorem dL_law_640 : decode cL_law 640 = .ok (.invokevirtual 102, 3) := by decide +kernel
theorem dL_law_643 : decode cL_law 643 = .ok (.istore 6, 2) := by decide +kernel
theorem dL_law_645 : decode cL_law 645 = .ok (.aload_n 2, 1) := by decide +kernel
theorem dL_law_646 : decode cL_law 646 = .ok (.invokevirtual 76, 3) := by decide +kernel
theorem dL_law_649 : decode cL_law 649 = .ok (.iload 5, 2) := by decide +kernel
theorem dL_law_651 : decode cL_law 651 = .ok (.if_icmp .eq 5, 3) := by decide +kernel
theorem dL_law_654 : decode cL_law 654 = .ok (.iconst 0, 1) := by decide +kernel
theorem dL_law_655 : decode cL_law 655 = .ok (.ireturn, 1) := by decide +kernel
theorem dL_law_656 : decode cL_law 656 = .ok (.iload 5, 2) := by decide +kernel
theorem dL_law_658 : decode cL_law 658 = .ok (.ifCond .ne 15, 3) := by decide +kernel
theorem dL_law_661 : decode cL_law 661 = .ok (.aload_n 3, 1) := by decide +kernel
theorem dL_law_662 : decode cL_law 662 = .ok (.iconst 0, 1) := by decide +kernel
theorem dL_law_663 : decode cL_law 663 = .ok (.laload, 1) := by decide +kernel
theorem dL_law_664 : decode cL_law 664 = .ok (.iload 6, 2) := by decide +kernel
theorem dL_law_666 : decode cL_law 666 = .ok (.i2l, 1) := by decide +kernel
theorem dL_law_667 : decode cL_law 667 = .ok (.lcmp, 1) := by decide +kernel
theorem dL_law_668 : decode cL_law 668 = .ok (.ifCond .eq 5, 3) := by decide +kernel
theorem dL_law_671 : decode cL_law 671 = .ok (.iconst 0, 1) := by decide +kernel
theorem dL_law_672 : decode cL_law 672 = .ok (.ireturn, 1) := by decide +kernel
theorem dL_law_673 : decode cL_law 673 = .ok (.goto 542, 3) := by decide +kernel
theorem dL_law_676 : decode cL_law 676 = .ok (.aload_n 1, 1) := by decide +kernel
theorem dL_law_677 : decode cL_law 677 = .ok (.aload_n 0, 1) := by decide +kernel
theorem dL_law_678 : decode cL_law 678 = .ok (.iload 4, 2) := by decide +kernel
theorem dL_law_680 : decode cL_law 680 = .ok (.iconst 1, 1) := by decide +kernel
theorem dL_law_681 : decode cL_law 681 = .ok (.iadd, 1) := by decide +kernel
theorem dL_law_682 : decode cL_law 682 = .ok (.iaload, 1) := by decide +kernel
theorem dL_law_683 : decode cL_law 683 = .ok (.aload_n 3, 1) := by decide +kernel
theorem dL_law_684 : decode cL_law 684 = .ok (.invokestatic 103, 3) := by decide +kernel
theorem dL_law_687 : decode cL_law 687 = .ok (.istore 5, 2) := by decide +kernel
theorem dL_law_689 : decode cL_law 689 = .ok (.aload_n 2, 1) := by decide +kernel
theorem dL_law_690 : decode cL_law 690 = .ok (.aload_n 0, 1) := by decide +kernel
theorem dL_law_691 : decode cL_law 691 = .ok (.iload 4, 2) := by decide +kernel
theorem dL_law_693 : decode cL_law 693 = .ok (.iconst 1, 1) := by decide +kernel
theorem dL_law_694 : decode cL_law 694 = .ok (.iadd, 1) := by decide +kernel
theorem dL_law_695 : decode cL_law 695 = .ok (.iaload, 1) := by decide +kernel
theorem dL_law_696 : decode cL_law 696 = .ok (.invokevirtual 105, 3) := by decide +kernel
theorem dL_law_699 : decode cL_law 699 = .ok (.istore 6, 2) := by decide +kernel
theorem dL_law_701 : decode cL_law 701 = .ok (.aload_n 2, 1) := by decide +kernel
theorem dL_law_702 : decode cL_law 702 = .ok (.invokevirtual 76, 3) := by decide +kernel
theorem dL_law_705 : decode cL_law 705 = .ok (.iload 5, 2) := by decide +kernel
theorem dL_law_707 : decode cL_law 707 = .ok (.if_icmp .eq 5, 3) := by decide +kernel
theorem dL_law_710 : decode cL_law 710 = .ok (.iconst 0, 1) := by decide +kernel
theorem dL_law_711 : decode cL_law 711 = .ok (.ireturn, 1) := by decide +kernel
theorem dL_law_712 : decode cL_law 712 = .ok (.iload 5, 2) := by decide +kernel
theorem dL_law_714 : decode cL_law 714 = .ok (.ifCond .ne 15, 3) := by decide +kernel
theorem dL_law_717 : decode cL_law 717 = .ok (.aload_n 3, 1) := by decide +kernel
theorem dL_law_718 : decode cL_law 718 = .ok (.iconst 0, 1) := by decide +kernel
theorem dL_law_719 : decode cL_law 719 = .ok (.laload, 1) := by decide +kernel
theorem dL_law_720 : decode cL_law 720 = .ok (.iload 6, 2) := by decide +kernel
theorem dL_law_722 : decode cL_law 722 = .ok (.i2l, 1) := by decide +kernel
theorem dL_law_723 : decode cL_law 723 = .ok (.lcmp, 1) := by decide +kernel
theorem dL_law_724 : decode cL_law 724 = .ok (.ifCond .eq 5, 3) := by decide +kernel
theorem dL_law_727 : decode cL_law 727 = .ok (.iconst 0, 1) := by decide +kernel
theorem dL_law_728 : decode cL_law 728 = .ok (.ireturn, 1) := by decide +kernel
theorem dL_law_729 : decode cL_law 729 = .ok (.goto 486, 3) := by decide +kernel
theorem dL_law_732 : decode cL_law 732 = .ok (.aload_n 1, 1) := by decide +kernel
theorem dL_law_733 : decode cL_law 733 = .ok (.invokevirtual 106, 3) := by decide +kernel
theorem dL_law_736 : decode cL_law 736 = .ok (.aload_n 2, 1) := by decide +kernel
theorem dL_law_737 : decode cL_law 737 = .ok (.invokevirtual 109, 3) := by decide +kernel
theorem dL_law_740 : decode cL_law 740 = .ok (.if_icmp .eq 475, 3) := by decide +kernel
theorem dL_law_743 : decode cL_law 743 = .ok (.iconst 0, 1) := by decide +kernel
theorem dL_law_744 : decode cL_law 744 = .ok (.ireturn, 1) := by decide +kernel
theorem dL_law_745 : decode cL_law 745 = .ok (.aload_n 1, 1) := by decide +kernel
theorem dL_law_746 : decode cL_law 746 = .ok (.invokevirtual 110, 3) := by decide +kernel
theorem dL_law_749 : decode cL_law 749 = .ok (.aload_n 2, 1) := by decide +kernel
theorem dL_law_750 : decode cL_law 750 = .ok (.invokevirtual 113, 3) := by decide +kernel
theorem dL_law_753 : decode cL_law 753 = .ok (.if_icmp .eq 462, 3) := by decide +kernel
theorem dL_law_756 : decode cL_law 756 = .ok (.iconst 0, 1) := by decide +kernel
theorem dL_law_757 : decode cL_law 757 = .ok (.ireturn, 1) := by decide +kernel
theorem dL_law_758 : decode cL_law 758 = .ok (.aload_n 1, 1) := by decide +kernel
theorem dL_law_759 : decode cL_law 759 = .ok (.invokevirtual 114, 3) := by decide +kernel
theorem dL_law_762 : decode cL_law 762 = .ok (.aload_n 2, 1) := by decide +kernel
theorem dL_law_763 : decode cL_law 763 = .ok (.invokevirtual 117, 3) := by decide +kernel
theorem dL_law_766 : decode cL_law 766 = .ok (.if_icmp .eq 449, 3) := by decide +kernel
theorem dL_law_769 : decode cL_law 769 = .ok (.iconst 0, 1) := by decide +kernel
theorem dL_law_770 : decode cL_law 770 = .ok (.ireturn, 1) := by decide +kernel
theorem dL_law_771 : decode cL_law 771 = .ok (.aload_n 1, 1) := by decide +kernel
theorem dL_law_772 : decode cL_law 772 = .ok (.invokevirtual 118, 3) := by decide +kernel
theorem dL_law_775 : decode cL_law 775 = .ok (.aload_n 2, 1) := by decide +kernel
theorem dL_law_776 : decode cL_law 776 = .ok (.invokevirtual 121, 3) := by decide +kernel
theorem dL_law_779 : decode cL_law 779 = .ok (.if_icmp .eq 436, 3) := by decide +kernel
theorem dL_law_782 : decode cL_law 782 = .ok (.iconst 0, 1) := by decide +kernel
theorem dL_law_783 : decode cL_law 783 = .ok (.ireturn, 1) := by decide +kernel
theorem dL_law_784 : decode cL_law 784 = .ok (.aload_n 1, 1) := by decide +kernel
theorem dL_law_785 : decode cL_law 785 = .ok (.aload_n 0, 1) := by decide +kernel
theorem dL_law_786 : decode cL_law 786 = .ok (.iload 4, 2) := by decide +kernel
theorem dL_law_788 : decode cL_law 788 = .ok (.iconst 1, 1) := by decide +kernel
theorem dL_law_789 : decode cL_law 789 = .ok (.iadd, 1) := by decide +kernel
theorem dL_law_790 : decode cL_law 790 = .ok (.iaload, 1) := by decide +kernel
theorem dL_law_791 : decode cL_law 791 = .ok (.aload_n 3, 1) := by decide +kernel
theorem dL_law_792 : decode cL_law 792 = .ok (.invokestatic 122, 3) := by decide +kernel
theorem dL_law_795 : decode cL_law 795 = .ok (.istore 5, 2) := by decide +kernel
theorem dL_law_797 : decode cL_law 797 = .ok (.aload_n 2, 1) := by decide +kernel
theorem dL_law_798 : decode cL_law 798 = .ok (.aload_n 0, 1) := by decide +kernel
theorem dL_law_799 : decode cL_law 799 = .ok (.iload 4, 2) := by decide +kernel
theorem dL_law_801 : decode cL_law 801 = .ok (.iconst 1, 1) := by decide +kernel
theorem dL_law_802 : decode cL_law 802 = .ok (.iadd, 1) := by decide +kernel
theorem dL_law_803 : decode cL_law 803 = .ok (.iaload, 1) := by decide +kernel
theorem dL_law_804 : decode cL_law 804 = .ok (.invokevirtual 124, 3) := by decide +kernel
theorem dL_law_807 : decode cL_law 807 = .ok (.istore 6, 2) := by decide +kernel
theorem dL_law_809 : decode cL_law 809 = .ok (.aload_n 2, 1) := by decide +kernel
theorem dL_law_810 : decode cL_law 810 = .ok (.invokevirtual 76, 3) := by decide +kernel
theorem dL_law_813 : decode cL_law 813 = .ok (.iload 5, 2) := by decide +kernel
theorem dL_law_815 : decode cL_law 815 = .ok (.if_icmp .eq 5, 3) := by decide +kernel
theorem dL_law_818 : decode cL_law 818 = .ok (.iconst 0, 1) := by decide +kernel
theorem dL_law_819 : decode cL_law 819 = .ok (.ireturn, 1) := by decide +kernel
theorem dL_law_820 : decode cL_law 820 = .ok (.iload 5, 2) := by decide +kernel
theorem dL_law_822 : decode cL_law 822 = .ok (.ifCond .ne 15, 3) := by decide +kernel
theorem dL_law_825 : decode cL_law 825 = .ok (.aload_n 3, 1) := by decide +kernel
theorem dL_law_826 : decode cL_law 826 = .ok (.iconst 0, 1) := by decide +kernel
theorem dL_law_827 : decode cL_law 827 = .ok (.laload, 1) := by decide +kernel
theorem dL_law_828 : decode cL_law 828 = .ok (.iload 6, 2) := by decide +kernel
theorem dL_law_830 : decode cL_law 830 = .ok (.i2l, 1) := by decide +kernel
theorem dL_law_831 : decode cL_law 831 = .ok (.lcmp, 1) := by decide +kernel
theorem dL_law_832 : decode cL_law 832 = .ok (.ifCond .eq 5, 3) := by decide +kernel
theorem dL_law_835 : decode cL_law 835 = .ok (.iconst 0, 1) := by decide +kernel
theorem dL_law_836 : decode cL_law 836 = .ok (.ireturn, 1) := by decide +kernel
theorem dL_law_837 : decode cL_law 837 = .ok (.goto 378, 3) := by decide +kernel
theorem dL_law_840 : decode cL_law 840 = .ok (.aload_n 1, 1) := by decide +kernel
theorem dL_law_841 : decode cL_law 841 = .ok (.aload_n 0, 1) := by decide +kernel
theorem dL_law_842 : decode cL_law 842 = .ok (.iload 4, 2) := by decide +kernel
theorem dL_law_844 : decode cL_law 844 = .ok (.iconst 1, 1) := by decide +kernel
theorem dL_law_845 : decode cL_law 845 = .ok (.iadd, 1) := by decide +kernel
theorem dL_law_846 : decode cL_law 846 = .ok (.iaload, 1) := by decide +kernel
theorem dL_law_847 : decode cL_law 847 = .ok (.aload_n 3, 1) := by decide +kernel
theorem dL_law_848 : decode cL_law 848 = .ok (.invokestatic 125, 3) := by decide +kernel
theorem dL_law_851 : decode cL_law 851 = .ok (.istore 5, 2) := by decide +kernel
theorem dL_law_853 : decode cL_law 853 = .ok (.aload_n 2, 1) := by decide +kernel
theorem dL_law_854 : decode cL_law 854 = .ok (.aload_n 0, 1) := by decide +kernel
theorem dL_law_855 : decode cL_law 855 = .ok (.iload 4, 2) := by decide +kernel
theorem dL_law_857 : decode cL_law 857 = .ok (.iconst 1, 1) := by decide +kernel
theorem dL_law_858 : decode cL_law 858 = .ok (.iadd, 1) := by decide +kernel
theorem dL_law_859 : decode cL_law 859 = .ok (.iaload, 1) := by decide +kernel
theorem dL_law_860 : decode cL_law 860 = .ok (.invokevirtual 127, 3) := by decide +kernel
theorem dL_law_863 : decode cL_law 863 = .ok (.istore 6, 2) := by decide +kernel
theorem dL_law_865 : decode cL_law 865 = .ok (.aload_n 2, 1) := by decide +kernel
theorem dL_law_866 : decode cL_law 866 = .ok (.invokevirtual 76, 3) := by decide +kernel
theorem dL_law_869 : decode cL_law 869 = .ok (.iload 5, 2) := by decide +kernel
theorem dL_law_871 : decode cL_law 871 = .ok (.if_icmp .eq 5, 3) := by decide +kernel
theorem dL_law_874 : decode cL_law 874 = .ok (.iconst 0, 1) := by decide +kernel
theorem dL_law_875 : decode cL_law 875 = .ok (.ireturn, 1) := by decide +kernel
theorem dL_law_876 : decode cL_law 876 = .ok (.iload 5, 2) := by decide +kernel
theorem dL_law_878 : decode cL_law 878 = .ok (.ifCond .ne 15, 3) := by decide +kernel
theorem dL_law_881 : decode cL_law 881 = .ok (.aload_n 3, 1) := by decide +kernel
theorem dL_law_882 : decode cL_law 882 = .ok (.iconst 0, 1) := by decide +kernel
theorem dL_law_883 : decode cL_law 883 = .ok (.laload, 1) := by decide +kernel
theorem dL_law_884 : decode cL_law 884 = .ok (.iload 6, 2) := by decide +kernel
theorem dL_law_886 : decode cL_law 886 = .ok (.i2l, 1) := by decide +kernel
theorem dL_law_887 : decode cL_law 887 = .ok (.lcmp, 1) := by decide +kernel
theorem dL_law_888 : decode cL_law 888 = .ok (.ifCond .eq 5, 3) := by decide +kernel
theorem dL_law_891 : decode cL_law 891 = .ok (.iconst 0, 1) := by decide +kernel
theorem dL_law_892 : decode cL_law 892 = .ok (.ireturn, 1) := by decide +kernel
theorem dL_law_893 : decode cL_law 893 = .ok (.goto 322, 3) := by decide +kernel
theorem dL_law_896 : decode cL_law 896 = .ok (.aload_n 1, 1) := by decide +kernel
theorem dL_law_897 : decode cL_law 897 = .ok (.aload_n 0, 1) := by decide +kernel
theorem dL_law_898 : decode cL_law 898 = .ok (.iload 4, 2) := by decide +kernel
theorem dL_law_900 : decode cL_law 900 = .ok (.iconst 1, 1) := by decide +kernel
theorem dL_law_901 : decode cL_law 901 = .ok (.iadd, 1) := by decide +kernel
theorem dL_law_902 : decode cL_law 902 = .ok (.iaload, 1) := by decide +kernel
theorem dL_law_903 : decode cL_law 903 = .ok (.aload_n 3, 1) := by decide +kernel
theorem dL_law_904 : decode cL_law 904 = .ok (.invokestatic 128, 3) := by decide +kernel
theorem dL_law_907 : decode cL_law 907 = .ok (.istore 5, 2) := by decide +kernel
theorem dL_law_909 : decode cL_law 909 = .ok (.aload_n 2, 1) := by decide +kernel
theorem dL_law_910 : decode cL_law 910 = .ok (.aload_n 0, 1) := by decide +kernel
theorem dL_law_911 : decode cL_law 911 = .ok (.iload 4, 2) := by decide +kernel
theorem dL_law_913 : decode cL_law 913 = .ok (.iconst 1, 1) := by decide +kernel
theorem dL_law_914 : decode cL_law 914 = .ok (.iadd, 1) := by decide +kernel
theorem dL_law_915 : decode cL_law 915 = .ok (.iaload, 1) := by decide +kernel
theorem dL_law_916 : decode cL_law 916 = .ok (.invokevirtual 130, 3) := by decide +kernel
theorem dL_law_919 : decode cL_law 919 = .ok (.istore 6, 2) := by decide +kernel
theorem dL_law_921 : decode cL_law 921 = .ok (.aload_n 2, 1) := by decide +kernel
theorem dL_law_922 : decode cL_law 922 = .ok (.invokevirtual 76, 3) := by decide +kernel
theorem dL_law_925 : decode cL_law 925 = .ok (.iload 5, 2) := by decide +kernel
theorem dL_law_927 : decode cL_law 927 = .ok (.if_icmp .eq 5, 3) := by decide +kernel
theorem dL_law_930 : decode cL_law 930 = .ok (.iconst 0, 1) := by decide +kernel
theorem dL_law_931 : decode cL_law 931 = .ok (.ireturn, 1) := by decide +kernel
theorem dL_law_932 : decode cL_law 932 = .ok (.iload 5, 2) := by decide +kernel
theorem dL_law_934 : decode cL_law 934 = .ok (.ifCond .ne 15, 3) := by decide +kernel
theorem dL_law_937 : decode cL_law 937 = .ok (.aload_n 3, 1) := by decide +kernel
theorem dL_law_938 : decode cL_law 938 = .ok (.iconst 0, 1) := by decide +kernel
theorem dL_law_939 : decode cL_law 939 = .ok (.laload, 1) := by decide +kernel
theorem dL_law_940 : decode cL_law 940 = .ok (.iload 6, 2) := by decide +kernel
theorem dL_law_942 : decode cL_law 942 = .ok (.i2l, 1) := by decide +kernel
theorem dL_law_943 : decode cL_law 943 = .ok (.lcmp, 1) := by decide +kernel
theorem dL_law_944 : decode cL_law 944 = .ok (.ifCond .eq 5, 3) := by decide +kernel
theorem dL_law_947 : decode cL_law 947 = .ok (.iconst 0, 1) := by decide +kernel
theorem dL_law_948 : decode cL_law 948 = .ok (.ireturn, 1) := by decide +kernel
theorem dL_law_949 : decode cL_law 949 = .ok (.goto 266, 3) := by decide +kernel
theorem dL_law_952 : decode cL_law 952 = .ok (.aload_n 1, 1) := by decide +kernel
theorem dL_law_953 : decode cL_law 953 = .ok (.aload_n 0, 1) := by decide +kernel
theorem dL_law_954 : decode cL_law 954 = .ok (.iload 4, 2) := by decide +kernel
theorem dL_law_956 : decode cL_law 956 = .ok (.iconst 1, 1) := by decide +kernel
theorem dL_law_957 : decode cL_law 957 = .ok (.iadd, 1) := by decide +kernel
theorem dL_law_958 : decode cL_law 958 = .ok (.iaload, 1) := by decide +kernel
theorem dL_law_959 : decode cL_law 959 = .ok (.aload_n 3, 1) := by decide +kernel
theorem dL_law_960 : decode cL_law 960 = .ok (.invokestatic 131, 3) := by decide +kernel
theorem dL_law_963 : decode cL_law 963 = .ok (.istore 5, 2) := by decide +kernel
theorem dL_law_965 : decode cL_law 965 = .ok (.aload_n 2, 1) := by decide +kernel
theorem dL_law_966 : decode cL_law 966 = .ok (.aload_n 0, 1) := by decide +kernel
theorem dL_law_967 : decode cL_law 967 = .ok (.iload 4, 2) := by decide +kernel
theorem dL_law_969 : decode cL_law 969 = .ok (.iconst 1, 1) := by decide +kernel
theorem dL_law_970 : decode cL_law 970 = .ok (.iadd, 1) := by decide +kernel
theorem dL_law_971 : decode cL_law 971 = .ok (.iaload, 1) := by decide +kernel
theorem dL_law_972 : decode cL_law 972 = .ok (.invokevirtual 133, 3) := by decide +kernel
theorem dL_law_975 : decode cL_law 975 = .ok (.istore 6, 2) := by decide +kernel
theorem dL_law_977 : decode cL_law 977 = .ok (.aload_n 2, 1) := by decide +kernel
theorem dL_law_978 : decode cL_law 978 = .ok (.invokevirtual 76, 3) := by decide +kernel
theorem dL_law_981 : decode cL_law 981 = .ok (.iload 5, 2) := by decide +kernel
theorem dL_law_983 : decode cL_law 983 = .ok (.if_icmp .eq 5, 3) := by decide +kernel
theorem dL_law_986 : decode cL_law 986 = .ok (.iconst 0, 1) := by decide +kernel
theorem dL_law_987 : decode cL_law 987 = .ok (.ireturn, 1) := by decide +kernel
theorem dL_law_988 : decode cL_law 988 = .ok (.iload 5, 2) := by decide +kernel
theorem dL_law_990 : decode cL_law 990 = .ok (.ifCond .ne 15, 3) := by decide +kernel
theorem dL_law_993 : decode cL_law 993 = .ok (.aload_n 3, 1) := by decide +kernel
theorem dL_law_994 : decode cL_law 994 = .ok (.iconst 0, 1) := by decide +kernel
theorem dL_law_995 : decode cL_law 995 = .ok (.laload, 1) := by decide +kernel
theorem dL_law_996 : decode cL_law 996 = .ok (.iload 6, 2) := by decide +kernel
theorem dL_law_998 : decode cL_law 998 = .ok (.i2l, 1) := by decide +kernel
theorem dL_law_999 : decode cL_law 999 = .ok (.lcmp, 1) := by decide +kernel
theorem dL_law_1000 : decode cL_law 1000 = .ok (.ifCond .eq 5, 3) := by decide +kernel
theorem dL_law_1003 : decode cL_law 1003 = .ok (.iconst 0, 1) := by decide +kernel
theorem dL_law_1004 : decode cL_law 1004 = .ok (.ireturn, 1) := by decide +kernel
theorem dL_law_1005 : decode cL_law 1005 = .ok (.goto 210, 3) := by decide +kernel
theorem dL_law_1008 : decode cL_law 1008 = .ok (.aload_n 1, 1) := by decide +kernel
theorem dL_law_1009 : decode cL_law 1009 = .ok (.aload_n 0, 1) := by decide +kernel
theorem dL_law_1010 : decode cL_law 1010 = .ok (.iload 4, 2) := by decide +kernel
theorem dL_law_1012 : decode cL_law 1012 = .ok (.iconst 1, 1) := by decide +kernel
theorem dL_law_1013 : decode cL_law 1013 = .ok (.iadd, 1) := by decide +kernel
theorem dL_law_1014 : decode cL_law 1014 = .ok (.iaload, 1) := by decide +kernel
theorem dL_law_1015 : decode cL_law 1015 = .ok (.aload_n 3, 1) := by decide +kernel
theorem dL_law_1016 : decode cL_law 1016 = .ok (.invokestatic 134, 3) := by decide +kernel
theorem dL_law_1019 : decode cL_law 1019 = .ok (.istore 5, 2) := by decide +kernel
theorem dL_law_1021 : decode cL_law 1021 = .ok (.aload_n 2, 1) := by decide +kernel
theorem dL_law_1022 : decode cL_law 1022 = .ok (.aload_n 0, 1) := by decide +kernel
theorem dL_law_1023 : decode cL_law 1023 = .ok (.iload 4, 2) := by decide +kernel
theorem dL_law_1025 : decode cL_law 1025 = .ok (.iconst 1, 1) := by decide +kernel
theorem dL_law_1026 : decode cL_law 1026 = .ok (.iadd, 1) := by decide +kernel
theorem dL_law_1027 : decode cL_law 1027 = .ok (.iaload, 1) := by decide +kernel
theorem dL_law_1028 : decode cL_law 1028 = .ok (.invokevirtual 136, 3) := by decide +kernel
theorem dL_law_1031 : decode cL_law 1031 = .ok (.istore 6, 2) := by decide +kernel
theorem dL_law_1033 : decode cL_law 1033 = .ok (.aload_n 2, 1) := by decide +kernel
theorem dL_law_1034 : decode cL_law 1034 = .ok (.invokevirtual 76, 3) := by decide +kernel
theorem dL_law_1037 : decode cL_law 1037 = .ok (.iload 5, 2) := by decide +kernel
theorem dL_law_1039 : decode cL_law 1039 = .ok (.if_icmp .eq 5, 3) := by decide +kernel
theorem dL_law_1042 : decode cL_law 1042 = .ok (.iconst 0, 1) := by decide +kernel
theorem dL_law_1043 : decode cL_law 1043 = .ok (.ireturn, 1) := by decide +kernel
theorem dL_law_1044 : decode cL_law 1044 = .ok (.iload 5, 2) := by decide +kernel
theorem dL_law_1046 : decode cL_law 1046 = .ok (.ifCond .ne 15, 3) := by decide +kernel
theorem dL_law_1049 : decode cL_law 1049 = .ok (.aload_n 3, 1) := by decide +kernel
theorem dL_law_1050 : decode cL_law 1050 = .ok (.iconst 0, 1) := by decide +kernel
theorem dL_law_1051 : decode cL_law 1051 = .ok (.laload, 1) := by decide +kernel
theorem dL_law_1052 : decode cL_law 1052 = .ok (.iload 6, 2) := by decide +kernel
theorem dL_law_1054 : decode cL_law 1054 = .ok (.i2l, 1) := by decide +kernel
theorem dL_law_1055 : decode cL_law 1055 = .ok (.lcmp, 1) := by decide +kernel
theorem dL_law_1056 : decode cL_law 1056 = .ok (.ifCond .eq 5, 3) := by decide +kernel
theorem dL_law_1059 : decode cL_law 1059 = .ok (.iconst 0, 1) := by decide +kernel
theorem dL_law_1060 : decode cL_law 1060 = .ok (.ireturn, 1) := by decide +kernel
theorem dL_law_1061 : decode cL_law 1061 = .ok (.goto 154, 3) := by decide +kernel
theorem dL_law_1064 : decode cL_law 1064 = .ok (.aload_n 1, 1) := by decide +kernel
theorem dL_law_1065 : decode cL_law 1065 = .ok (.aload_n 0, 1) := by decide +kernel
theorem dL_law_1066 : decode cL_law 1066 = .ok (.iload 4, 2) := by decide +kernel
theorem dL_law_1068 : decode cL_law 1068 = .ok (.iconst 1, 1) := by decide +kernel
theorem dL_law_1069 : decode cL_law 1069 = .ok (.iadd, 1) := by decide +kernel
theorem dL_law_1070 : decode cL_law 1070 = .ok (.iaload, 1) := by decide +kernel
theorem dL_law_1071 : decode cL_law 1071 = .ok (.aload_n 3, 1) := by decide +kernel
theorem dL_law_1072 : decode cL_law 1072 = .ok (.invokestatic 137, 3) := by decide +kernel
theorem dL_law_1075 : decode cL_law 1075 = .ok (.istore 5, 2) := by decide +kernel
theorem dL_law_1077 : decode cL_law 1077 = .ok (.aload_n 2, 1) := by decide +kernel
theorem dL_law_1078 : decode cL_law 1078 = .ok (.aload_n 0, 1) := by decide +kernel
theorem dL_law_1079 : decode cL_law 1079 = .ok (.iload 4, 2) := by decide +kernel
theorem dL_law_1081 : decode cL_law 1081 = .ok (.iconst 1, 1) := by decide +kernel
theorem dL_law_1082 : decode cL_law 1082 = .ok (.iadd, 1) := by decide +kernel
theorem dL_law_1083 : decode cL_law 1083 = .ok (.iaload, 1) := by decide +kernel
theorem dL_law_1084 : decode cL_law 1084 = .ok (.invokevirtual 139, 3) := by decide +kernel
theorem dL_law_1087 : decode cL_law 1087 = .ok (.istore 6, 2) := by decide +kernel
theorem dL_law_1089 : decode cL_law 1089 = .ok (.aload_n 2, 1) := by decide +kernel
theorem dL_law_1090 : decode cL_law 1090 = .ok (.invokevirtual 76, 3) := by decide +kernel
theorem dL_law_1093 : decode cL_law 1093 = .ok (.iload 5, 2) := by decide +kernel
theorem dL_law_1095 : decode cL_law 1095 = .ok (.if_icmp .eq 5, 3) := by decide +kernel
theorem dL_law_1098 : decode cL_law 1098 = .ok (.iconst 0, 1) := by decide +kernel
theorem dL_law_1099 : decode cL_law 1099 = .ok (.ireturn, 1) := by decide +kernel
theorem dL_law_1100 : decode cL_law 1100 = .ok (.iload 5, 2) := by decide +kernel
theorem dL_law_1102 : decode cL_law 1102 = .ok (.ifCond .ne 15, 3) := by decide +kernel
theorem dL_law_1105 : decode cL_law 1105 = .ok (.aload_n 3, 1) := by decide +kernel
theorem dL_law_1106 : decode cL_law 1106 = .ok (.iconst 0, 1) := by decide +kernel
theorem dL_law_1107 : decode cL_law 1107 = .ok (.laload, 1) := by decide +kernel
theorem dL_law_1108 : decode cL_law 1108 = .ok (.iload 6, 2) := by decide +kernel
theorem dL_law_1110 : decode cL_law 1110 = .ok (.i2l, 1) := by decide +kernel
theorem dL_law_1111 : decode cL_law 1111 = .ok (.lcmp, 1) := by decide +kernel
theorem dL_law_1112 : decode cL_law 1112 = .ok (.ifCond .eq 5, 3) := by decide +kernel
theorem dL_law_1115 : decode cL_law 1115 = .ok (.iconst 0, 1) := by decide +kernel
theorem dL_law_1116 : decode cL_law 1116 = .ok (.ireturn, 1) := by decide +kernel
theorem dL_law_1117 : decode cL_law 1117 = .ok (.goto 98, 3) := by decide +kernel
theorem dL_law_1120 : decode cL_law 1120 = .ok (.aload_n 1, 1) := by decide +kernel
theorem dL_law_1121 : decode cL_law 1121 = .ok (.invokevirtual 140, 3) := by decide +kernel
theorem dL_law_1124 : decode cL_law 1124 = .ok (.aload_n 2, 1) := by decide +kernel
theorem dL_law_1125 : decode cL_law 1125 = .ok (.invokevirtual 143, 3) := by decide +kernel
theorem dL_law_1128 : decode cL_law 1128 = .ok (.if_icmp .eq 87, 3) := by decide +kernel
theorem dL_law_1131 : decode cL_law 1131 = .ok (.iconst 0, 1) := by decide +kernel
theorem dL_law_1132 : decode cL_law 1132 = .ok (.ireturn, 1) := by decide +kernel
theorem dL_law_1133 : decode cL_law 1133 = .ok (.aload_n 1, 1) := by decide +kernel
theorem dL_law_1134 : decode cL_law 1134 = .ok (.invokevirtual 144, 3) := by decide +kernel
theorem dL_law_1137 : decode cL_law 1137 = .ok (.aload_n 2, 1) := by decide +kernel
theorem dL_law_1138 : decode cL_law 1138 = .ok (.invokevirtual 147, 3) := by decide +kernel
theorem dL_law_1141 : decode cL_law 1141 = .ok (.if_icmp .eq 74, 3) := by decide +kernel
theorem dL_law_1144 : decode cL_law 1144 = .ok (.iconst 0, 1) := by decide +kernel
theorem dL_law_1145 : decode cL_law 1145 = .ok (.ireturn, 1) := by decide +kernel
theorem dL_law_1146 : decode cL_law 1146 = .ok (.aload_n 1, 1) := by decide +kernel
theorem dL_law_1147 : decode cL_law 1147 = .ok (.aload_n 0, 1) := by decide +kernel
theorem dL_law_1148 : decode cL_law 1148 = .ok (.iload 4, 2) := by decide +kernel
theorem dL_law_1150 : decode cL_law 1150 = .ok (.iconst 1, 1) := by decide +kernel
theorem dL_law_1151 : decode cL_law 1151 = .ok (.iadd, 1) := by decide +kernel
theorem dL_law_1152 : decode cL_law 1152 = .ok (.iaload, 1) := by decide +kernel
theorem dL_law_1153 : decode cL_law 1153 = .ok (.aload_n 3, 1) := by decide +kernel
theorem dL_law_1154 : decode cL_law 1154 = .ok (.invokestatic 148, 3) := by decide +kernel
theorem dL_law_1157 : decode cL_law 1157 = .ok (.istore 5, 2) := by decide +kernel
theorem dL_law_1159 : decode cL_law 1159 = .ok (.aload_n 2, 1) := by decide +kernel
theorem dL_law_1160 : decode cL_law 1160 = .ok (.aload_n 0, 1) := by decide +kernel
theorem dL_law_1161 : decode cL_law 1161 = .ok (.iload 4, 2) := by decide +kernel
theorem dL_law_1163 : decode cL_law 1163 = .ok (.iconst 1, 1) := by decide +kernel
theorem dL_law_1164 : decode cL_law 1164 = .ok (.iadd, 1) := by decide +kernel
theorem dL_law_1165 : decode cL_law 1165 = .ok (.iaload, 1) := by decide +kernel
theorem dL_law_1166 : decode cL_law 1166 = .ok (.invokevirtual 150, 3) := by decide +kernel
theorem dL_law_1169 : decode cL_law 1169 = .ok (.istore 6, 2) := by decide +kernel
theorem dL_law_1171 : decode cL_law 1171 = .ok (.aload_n 2, 1) := by decide +kernel
theorem dL_law_1172 : decode cL_law 1172 = .ok (.invokevirtual 76, 3) := by decide +kernel
theorem dL_law_1175 : decode cL_law 1175 = .ok (.iload 5, 2) := by decide +kernel
theorem dL_law_1177 : decode cL_law 1177 = .ok (.if_icmp .eq 5, 3) := by decide +kernel
theorem dL_law_1180 : decode cL_law 1180 = .ok (.iconst 0, 1) := by decide +kernel
theorem dL_law_1181 : decode cL_law 1181 = .ok (.ireturn, 1) := by decide +kernel
theorem dL_law_1182 : decode cL_law 1182 = .ok (.iload 5, 2) := by decide +kernel
theorem dL_law_1184 : decode cL_law 1184 = .ok (.ifCond .ne 15, 3) := by decide +kernel
theorem dL_law_1187 : decode cL_law 1187 = .ok (.aload_n 3, 1) := by decide +kernel
theorem dL_law_1188 : decode cL_law 1188 = .ok (.iconst 0, 1) := by decide +kernel
theorem dL_law_1189 : decode cL_law 1189 = .ok (.laload, 1) := by decide +kernel
theorem dL_law_1190 : decode cL_law 1190 = .ok (.iload 6, 2) := by decide +kernel
theorem dL_law_1192 : decode cL_law 1192 = .ok (.i2l, 1) := by decide +kernel
theorem dL_law_1193 : decode cL_law 1193 = .ok (.lcmp, 1) := by decide +kernel
theorem dL_law_1194 : decode cL_law 1194 = .ok (.ifCond .eq 5, 3) := by decide +kernel
theorem dL_law_1197 : decode cL_law 1197 = .ok (.iconst 0, 1) := by decide +kernel
theorem dL_law_1198 : decode cL_law 1198 = .ok (.ireturn, 1) := by decide +kernel
theorem dL_law_1199 : decode cL_law 1199 = .ok (.goto 16, 3) := by decide +kernel
theorem dL_law_1202 : decode cL_law 1202 = .ok (.aload_n 1, 1) := by decide +kernel
theorem dL_law_1203 : decode cL_law 1203 = .ok (.invokevirtual 151, 3) := by decide +kernel
theorem dL_law_1206 : decode cL_law 1206 = .ok (.aload_n 2, 1) := by decide +kernel
theorem dL_law_1207 : decode cL_law 1207 = .ok (.invokevirtual 155, 3) := by decide +kernel
theorem dL_law_1210 : decode cL_law 1210 = .ok (.if_icmp .eq 5, 3) := by decide +kernel
theorem dL_law_1213 : decode cL_law 1213 = .ok (.iconst 0, 1) := by decide +kernel
theorem dL_law_1214 : decode cL_law 1214 = .ok (.ireturn, 1) := by decide +kernel
theorem dL_law_1215 : decode cL_law 1215 = .ok (.iinc 4 5, 3) := by decide +kernel
theorem dL_law_1218 : decode cL_law 1218 = .ok (.goto (-1195), 3) := by decide +kernel
theorem dL_law_1221 : decode cL_law 1221 = .ok (.iconst 1, 1) := by decide +kernel
theorem dL_law_1222 : decode cL_law 1222 = .ok (.ireturn, 1) := by decide +kernel
abbrev vwCl : List vw_C := [(RX0, TX0, 16), (RX1, TX1, 16)]
end
section
abbrev AR : Type := Nat → Int32
def xFs (a : Nat → Nat) (qpc qgd qri qnw qtk qsv : Int32) : List Value := [.ref (a 0), .ref (a 1), .ref (a 2), .ref (a 3), .ref (a 4), .ref (a 5), .int qpc, .int qgd, .int qri, .int qnw, .int qtk, .int qsv, .ref (a 12), .ref (a 13), .ref (a 14), .ref (a 15)]
def xW (cI cZ : ClassId) (h : Nat) (a : Nat → Nat) (qph : AR) (qgr : AR) (qne : AR) (qap : AR) (qle : AR) (qfu : AR) (qpc : Int32) (qgd : Int32) (qri : Int32) (qnw : Int32) (qtk : Int32) (qsv : Int32) (qwa : AR) (qgi : AR) (qlo : AR) (qtu : AR) : va_W := [(h, .inr (0, xFs a qpc qgd qri qnw qtk qsv)), (a 0, .inl (cI, 8, .inl qph)), (a 1, .inl (cI, 8, .inl qgr)), (a 2, .inl (cI, 8, .inl qne)), (a 3, .inl (cI, 8, .inl qap)), (a 4, .inl (cI, 8, .inl qle)), (a 5, .inl (cI, 3, .inl qfu)), (a 12, .inl (cI, 8, .inl qwa)), (a 13, .inl (cI, 8, .inl qgi)), (a 14, .inl (cI, 3, .inl qlo)), (a 15, .inl (cI, 8, .inl qtu))]
def mFs (a : Nat → Nat) (rpt rba rru rti rtk rsv rth : Int32) : List Value := [.int rpt, .ref (a 1), .ref (a 2), .ref (a 3), .ref (a 4), .ref (a 5), .ref (a 6), .ref (a 7), .int rba, .int rru, .int rti, .int rtk, .int rsv, .ref (a 13), .ref (a 14), .int rth]
def mW (cI cZ : ClassId) (h : Nat) (a : Nat → Nat) (rpt : Int32) (rph : AR) (rgr : AR) (rca : AR) (rne : AR) (rap : AR) (rle : AR) (rfu : AR) (rba : Int32) (rru : Int32) (rti : Int32) (rtk : Int32) (rsv : Int32) (rgi : AR) (rpa : AR) (rth : Int32) : va_W := [(h, .inr (1, mFs a rpt rba rru rti rtk rsv rth)), (a 1, .inl (cI, 8, .inl rph)), (a 2, .inl (cI, 8, .inl rgr)), (a 3, .inl (cZ, 8, .inl rca)), (a 4, .inl (cI, 8, .inl rne)), (a 5, .inl (cI, 8, .inl rap)), (a 6, .inl (cI, 8, .inl rle)), (a 7, .inl (cI, 3, .inl rfu)), (a 13, .inl (cI, 8, .inl rgi)), (a 14, .inl (cZ, 8, .inl rpa))]
def kT (cI cZ : ClassId) : List (ClassId × FieldType) := [(cI, .int), (cZ, .boolean)]
def kPre (dC : Nat → ClassId) (dI : Nat → Nat → Nat) (cI cZ : ClassId) (w : va_W) (sz : Nat) (U : State) : Prop := U.heap.size = sz ∧ va_P (dC, dI) vwCl w U.heap ∧ va_K (dC, dI) vwCl (kT cI cZ) U ∧ va_D (fun _ => True) w
def kBeh (dC : Nat → ClassId) (dI : Nat → Nat → Nat) (A : Nat → Prop) (w : va_W) (_ : Unit) (t : State) : Prop := va_P (dC, dI) vwCl w t.heap ∧ va_D A w
/-- a method that returns the int v and leaves the world w2 -/
def Ki (l : Launch) (y : MethodName) (ws : List Cond) (rm : Room) (dC : Nat → ClassId) (dI : Nat → Nat → Nat) (cI cZ : ClassId) (av : List Value) (w w2 : va_W) (v : Int32) : Prop := ∀ sz : Nat, Met l y ws rm (va_Pc av (kPre dC dI cI cZ w sz)) (va_Qi (fun r (_ : Unit) => r = v) (kBeh dC dI (va_A w sz) w2) (va_A w sz)) 0 0 (va_A w sz)
/-- a method that returns nothing and leaves the world w2 -/
def Kv (l : Launch) (y : MethodName) (ws : List Cond) (rm : Room) (dC : Nat → ClassId) (dI : Nat → Nat → Nat) (cI cZ : ClassId) (av : List Value) (w w2 : va_W) : Prop := ∀ sz : Nat, Met l y ws rm (va_Pc av (kPre dC dI cI cZ w sz)) (va_Qv (fun (_ : Unit) => True) (kBeh dC dI (va_A w sz) w2) (va_A w sz)) 0 0 (va_A w sz)
theorem kPre_blind {dC : Nat → ClassId} {dI : Nat → Nat → Nat} {cI cZ : ClassId} {w : va_W} {sz : Nat} {av : List Value} : FrameBlind (va_Pc av (kPre dC dI cI cZ w sz)) := fun a U g mk q => by
  obtain ⟨q0, q1, qP, qK, qD⟩ := q
  exact ⟨q0, q1, qP, va_K.moved (u := U) (U := U.calling g mk a) (Vm.Alike.refl U.vm) qK, qD⟩
theorem kPre_at {dC : Nat → ClassId} {dI : Nat → Nat → Nat} {cI cZ : ClassId} {w : va_W} {A : Nat → Prop} {av : List Value} {s : State} {H : Heap} (hK : va_K (dC, dI) vwCl (kT cI cZ) s) (hP : va_P (dC, dI) vwCl w H) (hD : va_D A w) : ∀ U : State, U.heap = H → s.WarmedH U.vm → va_Pc av (kPre dC dI cI cZ w H.size) av.toArray U := fun U hU hW => ⟨rfl, by rw [hU], by rw [hU]; exact hP, va_K.moved hW.alike hK, hD.weaken (fun _ _ _ _ => trivial)⟩
theorem k_free {A : Nat → Prop} {w : va_W} {H0 H : Heap} {locs : List Loc} (hD : va_D A w) (hS : va_S A H0 H locs) (hA : ∀ q, H0.size ≤ q → A q) : ∀ q, va_A w H.size q → A q := by
  intro q hq
  rcases hq with ⟨k, e, hk⟩ | hq
  · exact hD.2 k (q, e) hk
  · exact hA q (Nat.le_trans hS.1 hq)
section
variable {p : Program} {l : Launch} {e : Env} {R : Room} {s : State} {m : MethodId} {args : Array Value} {below : List Frame} {meth : Method} {c : Code} {H : Heap} {locs : List Loc} {cells slots : Nat} {Q : State → Prop}
variable {cc : ByteArray} {pc : Nat} {ls : Array Slot} {rest : List Value} {dC : Nat → ClassId} {dI : Nat → Nat → Nat} {cI cZ : ClassId} {A : Nat → Prop} {H0 : Heap} {w w2 : va_W}
theorem k_iret {r v : Int32} (hx : p.tables.exec = Jvm.exec) (hb : c.code = cc) (hr : meth.sig.returnType = some .int) (hlocks : meth.locks = false) (hS : va_S A s.heap H locs) (hP : va_P (dC, dI) vwCl w2 H) (hD : va_D A w2) (hv : r = v) (d : decode cc pc = .ok (.ireturn, 1)) : W p l e R s m args below meth c H locs 0 0 (MQ below (va_Qi (fun r (_ : Unit) => r = v) (kBeh dC dI A w2) A) args s 0 0 A) (F0 m pc ls [.int r]) :=
  W.iret (v := r) hx hb hr (fun t ht hW => ⟨⟨r, (), rfl, hv, by rw [ht]; exact hP, hD⟩, hS.F ht⟩) hS.2.2 d hlocks
theorem k_zret {r v : Int32} (hx : p.tables.exec = Jvm.exec) (hb : c.code = cc) (hr : meth.sig.returnType = some .boolean) (hlocks : meth.locks = false) (hS : va_S A s.heap H locs) (hP : va_P (dC, dI) vwCl w2 H) (hD : va_D A w2) (hv : r = v) (hz : r = 0 ∨ r = 1) (d : decode cc pc = .ok (.ireturn, 1)) : W p l e R s m args below meth c H locs 0 0 (MQ below (va_Qi (fun r (_ : Unit) => r = v) (kBeh dC dI A w2) A) args s 0 0 A) (F0 m pc ls [.int r]) :=
  W.zret (v := r) hx hb hr (by rcases hz with rfl | rfl <;> rfl) (fun t ht hW => ⟨⟨r, (), rfl, hv, by rw [ht]; exact hP, hD⟩, hS.F ht⟩) hS.2.2 d hlocks
theorem k_vret (hx : p.tables.exec = Jvm.exec) (hb : c.code = cc) (hr : meth.sig.returnType = none) (hlocks : meth.locks = false) (hS : va_S A s.heap H locs) (hP : va_P (dC, dI) vwCl w2 H) (hD : va_D A w2) (d : decode cc pc = .ok (.return_, 1)) : W p l e R s m args below meth c H locs 0 0 (MQ below (va_Qv (fun (_ : Unit) => True) (kBeh dC dI A w2) A) args s 0 0 A) (F0 m pc ls []) :=
  W.vret hx hb hr (fun t ht hW => ⟨⟨(), rfl, trivial, by rw [ht]; exact hP, hD⟩, hS.F ht⟩) hS.2.2 d hlocks
/-- a call of an instance method on the very world w -/
theorem k_calli {own C : String} {index nL maxL n : Nat} {y : MethodName} {bytes : ByteArray} {ret : Option FieldType} {Ts wy : List Cond} {rm : Room} {As : List Value} {b ci q0 : Nat} {fs : List Value} {T : u_T} {N : Nat} {v : Int32} (hC : CallFix p m c cc nL s args Ts own) (hM : Ki l y wy rm dC dI cI cZ (.ref b :: As) w w2 v) (cw : CallW R s args own C index y bytes maxL ret wy rm 0 0 n) (hK : va_K (dC, dI) vwCl (kT cI cZ) s) (hP : va_P (dC, dI) vwCl w H) (hD : va_D A w) (hS : va_S A H0 H locs) (hA : ∀ q, H0.size ≤ q → A q) (he : w[q0]? = some (b, .inr (ci, fs))) (hc : vwCl[ci]? = some (C, T, N)) (hn : As.length = n) (hl : ls.size = nL) (hr : (rest.map fun v => v.category).sum ≤ 8) (d : decode cc pc = .ok (.invokevirtual index, 3)) {st : List Value} (hst : st = As.reverse ++ .ref b :: rest) (hR : cells ≤ R.cells ∧ slots ≤ R.slots)
    (kk : ∀ (H1 : Heap) (locs1 : List Loc), va_P (dC, dI) vwCl w2 H1 → va_D A w2 → va_S A H0 H1 locs1 → W p l e R s m args below meth c H1 locs1 cells slots Q (F0 m (pc + 3) ls (.int v :: rest))) : W p l e R s m args below meth c H locs cells slots Q (F0 m pc ls st) := by
  have hF := k_free hD hS hA
  refine va_calli (va_runV (As := As) (b := b) (rest := rest) hC (hM H.size) cw ⟨kPre_blind, va_recv hK hP hc he, kPre_at hK hP hD⟩ rfl hn hl hst (lv_room hr) d hR) hS (fun q _ h => hF q h) hF (fun r u t H1 locs1 ht hvm hw hB hz hk hS1 => ?_)
  subst hw
  obtain ⟨hP1, hD1⟩ := hB
  rw [ht] at hP1
  exact kk H1 locs1 hP1 (hD1.weaken (fun _ q _ h => hF _ h)) hS1
theorem k_callv {own C : String} {index nL maxL n : Nat} {y : MethodName} {bytes : ByteArray} {ret : Option FieldType} {Ts wy : List Cond} {rm : Room} {As : List Value} {b ci q0 : Nat} {fs : List Value} {T : u_T} {N : Nat} (hC : CallFix p m c cc nL s args Ts own) (hM : Kv l y wy rm dC dI cI cZ (.ref b :: As) w w2) (cw : CallW R s args own C index y bytes maxL ret wy rm 0 0 n) (hK : va_K (dC, dI) vwCl (kT cI cZ) s) (hP : va_P (dC, dI) vwCl w H) (hD : va_D A w) (hS : va_S A H0 H locs) (hA : ∀ q, H0.size ≤ q → A q) (he : w[q0]? = some (b, .inr (ci, fs))) (hc : vwCl[ci]? = some (C, T, N)) (hn : As.length = n) (hl : ls.size = nL) (hr : (rest.map fun v => v.category).sum ≤ 8) (d : decode cc pc = .ok (.invokevirtual index, 3)) {st : List Value} (hst : st = As.reverse ++ .ref b :: rest) (hR : cells ≤ R.cells ∧ slots ≤ R.slots)
    (kk : ∀ (H1 : Heap) (locs1 : List Loc), va_P (dC, dI) vwCl w2 H1 → va_D A w2 → va_S A H0 H1 locs1 → W p l e R s m args below meth c H1 locs1 cells slots Q (F0 m (pc + 3) ls rest)) : W p l e R s m args below meth c H locs cells slots Q (F0 m pc ls st) := by
  have hF := k_free hD hS hA
  refine va_callv (va_runV (As := As) (b := b) (rest := rest) hC (hM H.size) cw ⟨kPre_blind, va_recv hK hP hc he, kPre_at hK hP hD⟩ rfl hn hl hst (lv_room hr) d hR) hS (fun q _ h => hF q h) hF (fun u t H1 locs1 ht hvm hw hB hz hk hS1 => ?_)
  obtain ⟨hP1, hD1⟩ := hB
  rw [ht] at hP1
  exact kk H1 locs1 hP1 (hD1.weaken (fun _ q _ h => hF _ h)) hS1
/-- a call of a static method that touches nothing -/
theorem k_calls {own : String} {index nL maxL n : Nat} {y : MethodName} {bytes : ByteArray} {ret : Option FieldType} {Ts wy : List Cond} {rm : Room} {As : List Value} {v : Int32} (hC : CallFix p m c cc nL s args Ts own) (hM : Ki l y wy rm dC dI cI cZ As w w v) (cw : CallB R s args own index y bytes maxL ret wy rm 0 0 n ∧ (Cond.static y).before args s = true) (hK : va_K (dC, dI) vwCl (kT cI cZ) s) (hP : va_P (dC, dI) vwCl w H) (hD : va_D A w) (hS : va_S A H0 H locs) (hA : ∀ q, H0.size ≤ q → A q) (hn : As.length = n) (hl : ls.size = nL) (hr : (rest.map fun v => v.category).sum ≤ 8) (d : decode cc pc = .ok (.invokestatic index, 3)) {st : List Value} (hst : st = As.reverse ++ rest) (hR : cells ≤ R.cells ∧ slots ≤ R.slots)
    (kk : ∀ (H1 : Heap) (locs1 : List Loc), va_P (dC, dI) vwCl w H1 → va_D A w → va_S A H0 H1 locs1 → W p l e R s m args below meth c H1 locs1 cells slots Q (F0 m (pc + 3) ls (.int v :: rest))) : W p l e R s m args below meth c H locs cells slots Q (F0 m pc ls st) := by
  have hF := k_free hD hS hA
  refine va_calli (va_runS (As := As) (rest := rest) hC (hM H.size) cw ⟨kPre_blind, kPre_at hK hP hD⟩ rfl hn hl hst (lv_room hr) d hR) hS (fun q _ h => hF q h) hF (fun r u t H1 locs1 ht hvm hw hB hz hk hS1 => ?_)
  subst hw
  obtain ⟨hP1, hD1⟩ := hB
  rw [ht] at hP1
  exact kk H1 locs1 hP1 (hD1.weaken (fun _ q _ h => hF _ h)) hS1
end
theorem k_enter_i {l : Launch} {y : MethodName} {ws ws' : List Cond} {rm : Room} {dC : Nat → ClassId} {dI : Nat → Nat → Nat} {cI cZ : ClassId} {av : List Value} {w w2 : va_W} {v : Int32} {cc : ByteArray} {maxL : Nat} {ret : Option FieldType} (hy : plainName y.cls = true) (hw : ws = Cond.code y cc maxL ret :: ws') (hn : (lg_sl av).length ≤ maxL)
    (body : ∀ (p : Program) (e : Env) (s : State) (m : MethodId) (below : List Frame) (meth : Method) (c : Code) (A : Nat → Prop) (ls : Array Slot), CallFix p m c cc maxL s av.toArray ws y.cls → meth.sig.returnType = ret → meth.locks = false → va_K (dC, dI) vwCl (kT cI cZ) s → va_P (dC, dI) vwCl w s.heap → va_D A w → va_S A s.heap s.heap [] → (∀ q, s.heap.size ≤ q → A q) → lv_has ls maxL (lv_args 0 av) →
      W p l e rm s m av.toArray below meth c s.heap [] 0 0 (MQ below (va_Qi (fun r (_ : Unit) => r = v) (kBeh dC dI A w2) A) av.toArray s 0 0 A) (F0 m 0 ls [])) : Ki l y ws rm dC dI cI cZ av w w2 v := by
  intro sz
  refine Met.ofW (cc := cc) (maxL := maxL) (ret := ret) hy hw ?_
  intro p e s m args below meth c s₁ B hml hv
  obtain ⟨rfl, hsz, hP, hK, hD0⟩ := hv
  subst hsz
  have hl := lv_entry av (n := maxL) hn
  rw [lg_entry_eq]
  exact body p e s m below meth c _ _ ⟨B.exec, B.bytes, hml, findClass_of_methodNamed B.named, atoms_spec (ws := ws) B.pre⟩ B.returns B.notSynchronized hK hP (hD0.self (sz := s.heap.size)) va_S.rf (fun q h => Or.inr h) hl
theorem k_enter_v {l : Launch} {y : MethodName} {ws ws' : List Cond} {rm : Room} {dC : Nat → ClassId} {dI : Nat → Nat → Nat} {cI cZ : ClassId} {av : List Value} {w w2 : va_W} {cc : ByteArray} {maxL : Nat} {ret : Option FieldType} (hy : plainName y.cls = true) (hw : ws = Cond.code y cc maxL ret :: ws') (hn : (lg_sl av).length ≤ maxL)
    (body : ∀ (p : Program) (e : Env) (s : State) (m : MethodId) (below : List Frame) (meth : Method) (c : Code) (A : Nat → Prop) (ls : Array Slot), CallFix p m c cc maxL s av.toArray ws y.cls → meth.sig.returnType = ret → meth.locks = false → va_K (dC, dI) vwCl (kT cI cZ) s → va_P (dC, dI) vwCl w s.heap → va_D A w → va_S A s.heap s.heap [] → (∀ q, s.heap.size ≤ q → A q) → lv_has ls maxL (lv_args 0 av) →
      W p l e rm s m av.toArray below meth c s.heap [] 0 0 (MQ below (va_Qv (fun (_ : Unit) => True) (kBeh dC dI A w2) A) av.toArray s 0 0 A) (F0 m 0 ls [])) : Kv l y ws rm dC dI cI cZ av w w2 := by
  intro sz
  refine Met.ofW (cc := cc) (maxL := maxL) (ret := ret) hy hw ?_
  intro p e s m args below meth c s₁ B hml hv
  obtain ⟨rfl, hsz, hP, hK, hD0⟩ := hv
  subst hsz
  have hl := lv_entry av (n := maxL) hn
  rw [lg_entry_eq]
  exact body p e s m below meth c _ _ ⟨B.exec, B.bytes, hml, findClass_of_methodNamed B.named, atoms_spec (ws := ws) B.pre⟩ B.returns B.notSynchronized hK hP (hD0.self (sz := s.heap.size)) va_S.rf (fun q h => Or.inr h) hl
theorem vpc0_3 : vp_in 0 3 := by unfold vp_in; decide
theorem vpc1_3 : vp_in 1 3 := by unfold vp_in; decide
theorem vpc2_3 : vp_in 2 3 := by unfold vp_in; decide
theorem vpc0_8 : vp_in 0 8 := by unfold vp_in; decide
theorem nI0_le : nI 0 ≤ 0 := by decide
theorem nI_m1 (n : Nat) : nI (n + 1) + Int32.ofInt (-1) = nI n := pk_m1 n
theorem vp_pred {n N : Nat} (h : n < N) (hN : N < 2 ^ 31) : vp_in (nI (n + 1) - 1) N := by rw [nI_pred]; exact vp_in_nI h hN
theorem nz_ge {x : Int32} (h : 1 ≤ x) : ¬ x = 0 := by
  intro e
  rw [e] at h
  exact absurd h (by decide)
theorem nIl3 : (3 : Int32) = nI 3 := rfl
theorem nIl8 : (8 : Int32) = nI 8 := rfl
theorem nIl32 : (32 : Int32) = nI 32 := rfl
theorem nIl256 : (256 : Int32) = nI 256 := rfl
theorem upd_in {f : AR} {w k : Nat} {x : Int32} (h : ∀ i, i < w → vp_in (f i) 8) (hx : vp_in x 8) : ∀ i, i < w → vp_in (upd f k x i) 8 := by
  intro i hi
  unfold upd
  split
  · exact hx
  · exact h i hi
theorem upd_in1 {f : AR} {w k : Nat} {x : Int32} (hk : k = w) (h : ∀ i, i < w → vp_in (f i) 8) (hx : vp_in x 8) : ∀ i, i < w + 1 → vp_in (upd f k x i) 8 := by
  intro i hi
  unfold upd
  split
  · exact hx
  · exact h i (by omega)
theorem xfd6 : parseFieldDescriptor (TX0 6).2.2.1 = some .int := by decide +kernel
theorem xfd7 : parseFieldDescriptor (TX0 7).2.2.1 = some .int := by decide +kernel
theorem xfd8 : parseFieldDescriptor (TX0 8).2.2.1 = some .int := by decide +kernel
theorem xfd9 : parseFieldDescriptor (TX0 9).2.2.1 = some .int := by decide +kernel
theorem xfd10 : parseFieldDescriptor (TX0 10).2.2.1 = some .int := by decide +kernel
theorem xfd11 : parseFieldDescriptor (TX0 11).2.2.1 = some .int := by decide +kernel
theorem mfd0 : parseFieldDescriptor (TX1 0).2.2.1 = some .int := by decide +kernel
theorem mfd8 : parseFieldDescriptor (TX1 8).2.2.1 = some .int := by decide +kernel
theorem mfd9 : parseFieldDescriptor (TX1 9).2.2.1 = some .int := by decide +kernel
theorem mfd10 : parseFieldDescriptor (TX1 10).2.2.1 = some .int := by decide +kernel
theorem mfd11 : parseFieldDescriptor (TX1 11).2.2.1 = some .int := by decide +kernel
theorem mfd12 : parseFieldDescriptor (TX1 12).2.2.1 = some .int := by decide +kernel
theorem mfd15 : parseFieldDescriptor (TX1 15).2.2.1 = some .int := by decide +kernel
end
section
def X0_dividedRoundedUp (am : Int32) (dv : Int32) : Int32 := (if 1 ≤ dv then (((am + dv) - 1) / dv) else am)
abbrev rmX0_dividedRoundedUp : Room := { frames := 0, cells := 0, slots := 0, locals := 0 }
theorem hd_X0_dividedRoundedUp : yX0_dividedRoundedUp.cls ≠ "java/lang/invoke/MethodHandle" ∧ yX0_dividedRoundedUp.cls ≠ "java/lang/invoke/VarHandle" ∧ (parseMethodDescriptor yX0_dividedRoundedUp.desc).map (fun d => d.parameters.length) = some 2 := by decide +kernel
set_option maxHeartbeats 4000000 in
set_option maxRecDepth 100000 in
theorem c_X0_dividedRoundedUp (l : Launch) (dC : Nat → ClassId) (dI : Nat → Nat → Nat) (cI cZ : ClassId) (w : va_W) (am : Int32) (dv : Int32) : Ki l yX0_dividedRoundedUp wsX0_dividedRoundedUp rmX0_dividedRoundedUp dC dI cI cZ [.int am, .int dv] w w (X0_dividedRoundedUp am dv) := by
  refine k_enter_i (cc := cX0_dividedRoundedUp) (maxL := 2) (ret := some .int) (by decide) rfl (Nat.le_of_ble_eq_true rfl) ?_
  intro p e s m below meth c A ls hC hr hlocks hK hP hD hS hA hl
  generalize List.toArray _ = args at hC ⊢
  obtain ⟨hx, hb, hml, hown, hts⟩ := id hC
  have hret : ∀ (H : Heap) (locs : List Loc) (pc : Nat) (ls : Array Slot) (r : Int32), va_S A s.heap H locs → va_P (dC, dI) vwCl w H → va_D A w → r = (X0_dividedRoundedUp am dv) → decode cX0_dividedRoundedUp pc = .ok (.ireturn, 1) → W p l e rmX0_dividedRoundedUp s m args below meth c H locs 0 0 (MQ below (va_Qi (fun r (_ : Unit) => r = (X0_dividedRoundedUp am dv)) (kBeh dC dI A w) A) args s 0 0 A) (F0 m pc ls [.int r]) := fun H locs pc ls r hS hP hD hv d => k_iret hx hb hr hlocks hS hP hD hv d
  generalize MQ below _ _ _ _ _ _ = Q at hret ⊢
  have hl : lv_has ls 2 [(0, .int am), (1, .int dv)] := hl
  have hW : ∀ (H : Heap) (locs : List Loc), va_P (dC, dI) vwCl w H → va_D A w → va_S A s.heap H locs → W p l e rmX0_dividedRoundedUp s m args below meth c H locs 0 0 Q (F0 m 0 ls []) := by
    intro H locs hP hD hS
    refine lv_iload_n hx hb dX0_dividedRoundedUp_0 rfl (lv_at hl 1 rfl) ?_
    refine lv_iconst (v := 1) hx hb dX0_dividedRoundedUp_1 (by decide) ?_
    refine lv_icmp_ge (tgt := 9) hx hb dX0_dividedRoundedUp_2 (by decide) (fun c2 => ?_) (fun c2 => ?_)
    · refine lv_iload_n hx hb dX0_dividedRoundedUp_9 rfl (lv_at hl 0 rfl) ?_
      refine lv_iload_n hx hb dX0_dividedRoundedUp_10 rfl (lv_at hl 1 rfl) ?_
      refine lv_iadd hx hb dX0_dividedRoundedUp_11 ?_
      refine lv_iconst (v := 1) hx hb dX0_dividedRoundedUp_12 (by decide) ?_
      refine lv_isub hx hb dX0_dividedRoundedUp_13 ?_
      refine lv_iload_n hx hb dX0_dividedRoundedUp_14 rfl (lv_at hl 1 rfl) ?_
      refine lv_idiv hx hb dX0_dividedRoundedUp_15 (nz_ge c2) ?_
      exact hret H locs 16 ls (((am + dv) - 1) / dv) hS hP hD (by rw [X0_dividedRoundedUp, if_pos c2]) dX0_dividedRoundedUp_16
    · refine lv_iload_n hx hb dX0_dividedRoundedUp_5 rfl (lv_at hl 0 rfl) ?_
      refine lv_goto (tgt := 16) hx hb dX0_dividedRoundedUp_6 (by decide) ?_
      exact hret H locs 16 ls am hS hP hD (by rw [X0_dividedRoundedUp, if_neg c2]) dX0_dividedRoundedUp_16
  exact hW _ _ hP hD hS
def X0_hasCar (qne : AR) (i : Int32) : Int32 := (if (qne i.toNatClampNeg) = (-1) then 0 else 1)
abbrev rmX0_hasCar : Room := { frames := 0, cells := 0, slots := 0, locals := 0 }
theorem hd_X0_hasCar : yX0_hasCar.cls = RX0 ∧ yX0_hasCar.cls ≠ "java/lang/invoke/MethodHandle" ∧ yX0_hasCar.cls ≠ "java/lang/invoke/VarHandle" ∧ (parseMethodDescriptor yX0_hasCar.desc).map (fun d => d.parameters.length) = some 1 := by decide +kernel
set_option maxHeartbeats 4000000 in
set_option maxRecDepth 100000 in
theorem c_X0_hasCar (l : Launch) (dC : Nat → ClassId) (dI : Nat → Nat → Nat) (cI cZ : ClassId) (h : Nat) (a : Nat → Nat) (qph : AR) (qgr : AR) (qne : AR) (qap : AR) (qle : AR) (qfu : AR) (qpc : Int32) (qgd : Int32) (qri : Int32) (qnw : Int32) (qtk : Int32) (qsv : Int32) (qwa : AR) (qgi : AR) (qlo : AR) (qtu : AR) (i : Int32) (hp : vp_in i 8) : Ki l yX0_hasCar wsX0_hasCar rmX0_hasCar dC dI cI cZ [.ref h, .int i] (xW cI cZ h a qph qgr qne qap qle qfu qpc qgd qri qnw qtk qsv qwa qgi qlo qtu) (xW cI cZ h a qph qgr qne qap qle qfu qpc qgd qri qnw qtk qsv qwa qgi qlo qtu) (X0_hasCar qne i) := by
  refine k_enter_i (cc := cX0_hasCar) (maxL := 2) (ret := some .boolean) (by decide) rfl (Nat.le_of_ble_eq_true rfl) ?_
  intro p e s m below meth c A ls hC hr hlocks hK hP hD hS hA hl
  generalize List.toArray _ = args at hC ⊢
  obtain ⟨hx, hb, hml, hown, hts⟩ := id hC
  have hret : ∀ (H : Heap) (locs : List Loc) (pc : Nat) (ls : Array Slot) (r : Int32), va_S A s.heap H locs → va_P (dC, dI) vwCl (xW cI cZ h a qph qgr qne qap qle qfu qpc qgd qri qnw qtk qsv qwa qgi qlo qtu) H → va_D A (xW cI cZ h a qph qgr qne qap qle qfu qpc qgd qri qnw qtk qsv qwa qgi qlo qtu) → r = (X0_hasCar qne i) → (r = 0 ∨ r = 1) → decode cX0_hasCar pc = .ok (.ireturn, 1) → W p l e rmX0_hasCar s m args below meth c H locs 0 0 (MQ below (va_Qi (fun r (_ : Unit) => r = (X0_hasCar qne i)) (kBeh dC dI A (xW cI cZ h a qph qgr qne qap qle qfu qpc qgd qri qnw qtk qsv qwa qgi qlo qtu)) A) args s 0 0 A) (F0 m pc ls [.int r]) := fun H locs pc ls r hS hP hD hv hz d => k_zret hx hb hr hlocks hS hP hD hv hz d
  generalize MQ below _ _ _ _ _ _ = Q at hret ⊢
  have hin : ∀ w ∈ wsX00, w ∈ wsX0_hasCar := by decide +kernel
  have hw0 := hts (.fieldLink RX0 16 "ChargePark" "needOf" "[I") (by decide +kernel)
  have hl : lv_has ls 2 [(0, .ref h), (1, .int i)] := hl
  have hP : va_P (dC, dI) vwCl (xW cI cZ h a qph qgr qne qap qle qfu qpc qgd qri qnw qtk qsv qwa qgi qlo qtu) s.heap := hP
  have hW : ∀ (H : Heap) (locs : List Loc), va_P (dC, dI) vwCl (xW cI cZ h a qph qgr qne qap qle qfu qpc qgd qri qnw qtk qsv qwa qgi qlo qtu) H → va_D A (xW cI cZ h a qph qgr qne qap qle qfu qpc qgd qri qnw qtk qsv qwa qgi qlo qtu) → va_S A s.heap H locs → W p l e rmX0_hasCar s m args below meth c H locs 0 0 Q (F0 m 0 ls []) := by
    intro H locs hP hD hS
    refine lv_aload_n hx hb dX0_hasCar_0 rfl (lv_at hl 0 rfl) ?_
    refine va_get (D := (dC, dI)) (ci := 0) (v := .ref (a 2)) (C := RX0) (T := TX0) (N := 16) hx hb hts hin hown hK hP 0 rfl rfl 2 (by decide) hw0 (fun _ h9 => h9) rfl dX0_hasCar_1 ?_
    refine lv_iload_n hx hb dX0_hasCar_4 rfl (lv_at hl 1 rfl) ?_
    refine va_iald (f := qne) hx hb hK hP 3 0 rfl rfl hp dX0_hasCar_5 ?_
    refine lv_iconst (v := (-1)) hx hb dX0_hasCar_6 (by decide) ?_
    refine lv_icmp_eq (tgt := 14) hx hb dX0_hasCar_7 (by decide) (fun c7 => ?_) (fun c7 => ?_)
    · refine lv_iconst (v := 0) hx hb dX0_hasCar_14 (by decide) ?_
      exact hret H locs 15 ls 0 hS hP hD (by rw [X0_hasCar, if_pos c7]) (Or.inl rfl) dX0_hasCar_15
    · refine lv_iconst (v := 1) hx hb dX0_hasCar_10 (by decide) ?_
      refine lv_goto (tgt := 15) hx hb dX0_hasCar_11 (by decide) ?_
      exact hret H locs 15 ls 1 hS hP hD (by rw [X0_hasCar, if_neg c7]) (Or.inr rfl) dX0_hasCar_15
  exact hW _ _ hP hD hS
def X0_stepsLeftAt (qle : AR) (qnw : Int32) (i : Int32) : Int32 := (if ((qle i.toNatClampNeg) - qnw) < 0 then 0 else ((qle i.toNatClampNeg) - qnw))
abbrev rmX0_stepsLeftAt : Room := { frames := 1, cells := 0, slots := 0, locals := 13 }
theorem hd_X0_stepsLeftAt : yX0_stepsLeftAt.cls = RX0 ∧ yX0_stepsLeftAt.cls ≠ "java/lang/invoke/MethodHandle" ∧ yX0_stepsLeftAt.cls ≠ "java/lang/invoke/VarHandle" ∧ (parseMethodDescriptor yX0_stepsLeftAt.desc).map (fun d => d.parameters.length) = some 1 := by decide +kernel
set_option maxHeartbeats 4000000 in
set_option maxRecDepth 100000 in
theorem c_X0_stepsLeftAt (l : Launch) (dC : Nat → ClassId) (dI : Nat → Nat → Nat) (cI cZ : ClassId) (h : Nat) (a : Nat → Nat) (qph : AR) (qgr : AR) (qne : AR) (qap : AR) (qle : AR) (qfu : AR) (qpc : Int32) (qgd : Int32) (qri : Int32) (qnw : Int32) (qtk : Int32) (qsv : Int32) (qwa : AR) (qgi : AR) (qlo : AR) (qtu : AR) (i : Int32) (hp : vp_in i 8) : Ki l yX0_stepsLeftAt wsX0_stepsLeftAt rmX0_stepsLeftAt dC dI cI cZ [.ref h, .int i] (xW cI cZ h a qph qgr qne qap qle qfu qpc qgd qri qnw qtk qsv qwa qgi qlo qtu) (xW cI cZ h a qph qgr qne qap qle qfu qpc qgd qri qnw qtk qsv qwa qgi qlo qtu) (X0_stepsLeftAt qle qnw i) := by
  refine k_enter_i (cc := cX0_stepsLeftAt) (maxL := 2) (ret := some .int) (by decide) rfl (Nat.le_of_ble_eq_true rfl) ?_
  intro p e s m below meth c A ls hC hr hlocks hK hP hD hS hA hl
  generalize List.toArray _ = args at hC ⊢
  obtain ⟨hx, hb, hml, hown, hts⟩ := id hC
  have hret : ∀ (H : Heap) (locs : List Loc) (pc : Nat) (ls : Array Slot) (r : Int32), va_S A s.heap H locs → va_P (dC, dI) vwCl (xW cI cZ h a qph qgr qne qap qle qfu qpc qgd qri qnw qtk qsv qwa qgi qlo qtu) H → va_D A (xW cI cZ h a qph qgr qne qap qle qfu qpc qgd qri qnw qtk qsv qwa qgi qlo qtu) → r = (X0_stepsLeftAt qle qnw i) → decode cX0_stepsLeftAt pc = .ok (.ireturn, 1) → W p l e rmX0_stepsLeftAt s m args below meth c H locs 0 0 (MQ below (va_Qi (fun r (_ : Unit) => r = (X0_stepsLeftAt qle qnw i)) (kBeh dC dI A (xW cI cZ h a qph qgr qne qap qle qfu qpc qgd qri qnw qtk qsv qwa qgi qlo qtu)) A) args s 0 0 A) (F0 m pc ls [.int r]) := fun H locs pc ls r hS hP hD hv d => k_iret hx hb hr hlocks hS hP hD hv d
  generalize MQ below _ _ _ _ _ _ = Q at hret ⊢
  have hin : ∀ w ∈ wsX00, w ∈ wsX0_stepsLeftAt := by decide +kernel
  have hw0 := hts (.fieldLink RX0 22 "ChargePark" "leavesAt" "[I") (by decide +kernel)
  have hw1 := hts (.fieldLink RX0 74 "ChargePark" "now" "I") (by decide +kernel)
  have hw2 := hts (.methodLink RX0 87 Lib.Math.max.name) (by decide +kernel)
  have hw3 := hts (.static Lib.Math.max.name) (by decide +kernel)
  have hw4 := hts (.initialized "java/lang/Math") (by decide +kernel)
  have hw5 := hts (.code Lib.Math.max.name Lib.Math.max.code 2 (some .int)) (by decide +kernel)
  have hl : lv_has ls 2 [(0, .ref h), (1, .int i)] := hl
  have hP : va_P (dC, dI) vwCl (xW cI cZ h a qph qgr qne qap qle qfu qpc qgd qri qnw qtk qsv qwa qgi qlo qtu) s.heap := hP
  have hW : ∀ (H : Heap) (locs : List Loc), va_P (dC, dI) vwCl (xW cI cZ h a qph qgr qne qap qle qfu qpc qgd qri qnw qtk qsv qwa qgi qlo qtu) H → va_D A (xW cI cZ h a qph qgr qne qap qle qfu qpc qgd qri qnw qtk qsv qwa qgi qlo qtu) → va_S A s.heap H locs → W p l e rmX0_stepsLeftAt s m args below meth c H locs 0 0 Q (F0 m 0 ls []) := by
    intro H locs hP hD hS
    refine lv_aload_n hx hb dX0_stepsLeftAt_0 rfl (lv_at hl 0 rfl) ?_
    refine va_get (D := (dC, dI)) (ci := 0) (v := .ref (a 4)) (C := RX0) (T := TX0) (N := 16) hx hb hts hin hown hK hP 0 rfl rfl 4 (by decide) hw0 (fun _ h9 => h9) rfl dX0_stepsLeftAt_1 ?_
    refine lv_iload_n hx hb dX0_stepsLeftAt_4 rfl (lv_at hl 1 rfl) ?_
    refine va_iald (f := qle) hx hb hK hP 5 0 rfl rfl hp dX0_stepsLeftAt_5 ?_
    refine lv_aload_n hx hb dX0_stepsLeftAt_6 rfl (lv_at hl 0 rfl) ?_
    refine va_get (D := (dC, dI)) (ci := 0) (v := .int qnw) (C := RX0) (T := TX0) (N := 16) hx hb hts hin hown hK hP 0 rfl rfl 9 (by decide) hw1 (fun _ h9 => h9) rfl dX0_stepsLeftAt_7 ?_
    refine lv_isub hx hb dX0_stepsLeftAt_10 ?_
    refine lv_iconst (v := 0) hx hb dX0_stepsLeftAt_11 (by decide) ?_
    refine va_mmax hx hb (hml.trans hl.1.symm) hown hw2 hw3 hw4 hw5 (Nat.le_of_ble_eq_true rfl) (Nat.le_of_ble_eq_true rfl) (Nat.zero_le _) (Nat.zero_le _) dX0_stepsLeftAt_12 ?_
    exact hret H locs 15 ls (if ((qle i.toNatClampNeg) - qnw) < 0 then 0 else ((qle i.toNatClampNeg) - qnw)) hS hP hD (by rw [X0_stepsLeftAt]) dX0_stepsLeftAt_15
  exact hW _ _ hP hD hS
def X0_lesserOfGreatestAndAppetite (qgr : AR) (qap : AR) (i : Int32) : Int32 := (if (qap i.toNatClampNeg) < (qgr i.toNatClampNeg) then (qap i.toNatClampNeg) else (qgr i.toNatClampNeg))
abbrev rmX0_lesserOfGreatestAndAppetite : Room := { frames := 1, cells := 0, slots := 0, locals := 13 }
theorem hd_X0_lesserOfGreatestAndAppetite : yX0_lesserOfGreatestAndAppetite.cls = RX0 ∧ yX0_lesserOfGreatestAndAppetite.cls ≠ "java/lang/invoke/MethodHandle" ∧ yX0_lesserOfGreatestAndAppetite.cls ≠ "java/lang/invoke/VarHandle" ∧ (parseMethodDescriptor yX0_lesserOfGreatestAndAppetite.desc).map (fun d => d.parameters.length) = some 1 := by decide +kernel
set_option maxHeartbeats 4000000 in
set_option maxRecDepth 100000 in
theorem c_X0_lesserOfGreatestAndAppetite (l : Launch) (dC : Nat → ClassId) (dI : Nat → Nat → Nat) (cI cZ : ClassId) (h : Nat) (a : Nat → Nat) (qph : AR) (qgr : AR) (qne : AR) (qap : AR) (qle : AR) (qfu : AR) (qpc : Int32) (qgd : Int32) (qri : Int32) (qnw : Int32) (qtk : Int32) (qsv : Int32) (qwa : AR) (qgi : AR) (qlo : AR) (qtu : AR) (i : Int32) (hp : vp_in i 8) : Ki l yX0_lesserOfGreatestAndAppetite wsX0_lesserOfGreatestAndAppetite rmX0_lesserOfGreatestAndAppetite dC dI cI cZ [.ref h, .int i] (xW cI cZ h a qph qgr qne qap qle qfu qpc qgd qri qnw qtk qsv qwa qgi qlo qtu) (xW cI cZ h a qph qgr qne qap qle qfu qpc qgd qri qnw qtk qsv qwa qgi qlo qtu) (X0_lesserOfGreatestAndAppetite qgr qap i) := by
  refine k_enter_i (cc := cX0_lesserOfGreatestAndAppetite) (maxL := 2) (ret := some .int) (by decide) rfl (Nat.le_of_ble_eq_true rfl) ?_
  intro p e s m below meth c A ls hC hr hlocks hK hP hD hS hA hl
  generalize List.toArray _ = args at hC ⊢
  obtain ⟨hx, hb, hml, hown, hts⟩ := id hC
  have hret : ∀ (H : Heap) (locs : List Loc) (pc : Nat) (ls : Array Slot) (r : Int32), va_S A s.heap H locs → va_P (dC, dI) vwCl (xW cI cZ h a qph qgr qne qap qle qfu qpc qgd qri qnw qtk qsv qwa qgi qlo qtu) H → va_D A (xW cI cZ h a qph qgr qne qap qle qfu qpc qgd qri qnw qtk qsv qwa qgi qlo qtu) → r = (X0_lesserOfGreatestAndAppetite qgr qap i) → decode cX0_lesserOfGreatestAndAppetite pc = .ok (.ireturn, 1) → W p l e rmX0_lesserOfGreatestAndAppetite s m args below meth c H locs 0 0 (MQ below (va_Qi (fun r (_ : Unit) => r = (X0_lesserOfGreatestAndAppetite qgr qap i)) (kBeh dC dI A (xW cI cZ h a qph qgr qne qap qle qfu qpc qgd qri qnw qtk qsv qwa qgi qlo qtu)) A) args s 0 0 A) (F0 m pc ls [.int r]) := fun H locs pc ls r hS hP hD hv d => k_iret hx hb hr hlocks hS hP hD hv d
  generalize MQ below _ _ _ _ _ _ = Q at hret ⊢
  have hin : ∀ w ∈ wsX00, w ∈ wsX0_lesserOfGreatestAndAppetite := by decide +kernel
  have hw0 := hts (.fieldLink RX0 13 "ChargePark" "greatestOf" "[I") (by decide +kernel)
  have hw1 := hts (.fieldLink RX0 19 "ChargePark" "appetiteOf" "[I") (by decide +kernel)
  have hw2 := hts (.methodLink RX0 132 Lib.Math.min.name) (by decide +kernel)
  have hw3 := hts (.static Lib.Math.min.name) (by decide +kernel)
  have hw4 := hts (.initialized "java/lang/Math") (by decide +kernel)
  have hw5 := hts (.code Lib.Math.min.name Lib.Math.min.code 2 (some .int)) (by decide +kernel)
  have hl : lv_has ls 2 [(0, .ref h), (1, .int i)] := hl
  have hP : va_P (dC, dI) vwCl (xW cI cZ h a qph qgr qne qap qle qfu qpc qgd qri qnw qtk qsv qwa qgi qlo qtu) s.heap := hP
  have hW : ∀ (H : Heap) (locs : List Loc), va_P (dC, dI) vwCl (xW cI cZ h a qph qgr qne qap qle qfu qpc qgd qri qnw qtk qsv qwa qgi qlo qtu) H → va_D A (xW cI cZ h a qph qgr qne qap qle qfu qpc qgd qri qnw qtk qsv qwa qgi qlo qtu) → va_S A s.heap H locs → W p l e rmX0_lesserOfGreatestAndAppetite s m args below meth c H locs 0 0 Q (F0 m 0 ls []) := by
    intro H locs hP hD hS
    refine lv_aload_n hx hb dX0_lesserOfGreatestAndAppetite_0 rfl (lv_at hl 0 rfl) ?_
    refine va_get (D := (dC, dI)) (ci := 0) (v := .ref (a 1)) (C := RX0) (T := TX0) (N := 16) hx hb hts hin hown hK hP 0 rfl rfl 1 (by decide) hw0 (fun _ h9 => h9) rfl dX0_lesserOfGreatestAndAppetite_1 ?_
    refine lv_iload_n hx hb dX0_lesserOfGreatestAndAppetite_4 rfl (lv_at hl 1 rfl) ?_
    refine va_iald (f := qgr) hx hb hK hP 2 0 rfl rfl hp dX0_lesserOfGreatestAndAppetite_5 ?_
    refine lv_aload_n hx hb dX0_lesserOfGreatestAndAppetite_6 rfl (lv_at hl 0 rfl) ?_
    refine va_get (D := (dC, dI)) (ci := 0) (v := .ref (a 3)) (C := RX0) (T := TX0) (N := 16) hx hb hts hin hown hK hP 0 rfl rfl 3 (by decide) hw1 (fun _ h9 => h9) rfl dX0_lesserOfGreatestAndAppetite_7 ?_
    refine lv_iload_n hx hb dX0_lesserOfGreatestAndAppetite_10 rfl (lv_at hl 1 rfl) ?_
    refine va_iald (f := qap) hx hb hK hP 4 0 rfl rfl hp dX0_lesserOfGreatestAndAppetite_11 ?_
    refine va_mmin hx hb (hml.trans hl.1.symm) hown hw2 hw3 hw4 hw5 (Nat.le_of_ble_eq_true rfl) (Nat.le_of_ble_eq_true rfl) (Nat.zero_le _) (Nat.zero_le _) dX0_lesserOfGreatestAndAppetite_12 ?_
    exact hret H locs 15 ls (if (qap i.toNatClampNeg) < (qgr i.toNatClampNeg) then (qap i.toNatClampNeg) else (qgr i.toNatClampNeg)) hS hP hD (by rw [X0_lesserOfGreatestAndAppetite]) dX0_lesserOfGreatestAndAppetite_15
  exact hW _ _ hP hD hS
def X0_unitsPerAmpere (qph : AR) (i : Int32) : Int32 := (if (qph i.toNatClampNeg) = 3 then 3 else 1)
abbrev rmX0_unitsPerAmpere : Room := { frames := 0, cells := 0, slots := 0, locals := 0 }
theorem hd_X0_unitsPerAmpere : yX0_unitsPerAmpere.cls = RX0 ∧ yX0_unitsPerAmpere.cls ≠ "java/lang/invoke/MethodHandle" ∧ yX0_unitsPerAmpere.cls ≠ "java/lang/invoke/VarHandle" ∧ (parseMethodDescriptor yX0_unitsPerAmpere.desc).map (fun d => d.parameters.length) = some 1 := by decide +kernel
set_option maxHeartbeats 4000000 in
set_option maxRecDepth 100000 in
theorem c_X0_unitsPerAmpere (l : Launch) (dC : Nat → ClassId) (dI : Nat → Nat → Nat) (cI cZ : ClassId) (h : Nat) (a : Nat → Nat) (qph : AR) (qgr : AR) (qne : AR) (qap : AR) (qle : AR) (qfu : AR) (qpc : Int32) (qgd : Int32) (qri : Int32) (qnw : Int32) (qtk : Int32) (qsv : Int32) (qwa : AR) (qgi : AR) (qlo : AR) (qtu : AR) (i : Int32) (hp : vp_in i 8) : Ki l yX0_unitsPerAmpere wsX0_unitsPerAmpere rmX0_unitsPerAmpere dC dI cI cZ [.ref h, .int i] (xW cI cZ h a qph qgr qne qap qle qfu qpc qgd qri qnw qtk qsv qwa qgi qlo qtu) (xW cI cZ h a qph qgr qne qap qle qfu qpc qgd qri qnw qtk qsv qwa qgi qlo qtu) (X0_unitsPerAmpere qph i) := by
  refine k_enter_i (cc := cX0_unitsPerAmpere) (maxL := 2) (ret := some .int) (by decide) rfl (Nat.le_of_ble_eq_true rfl) ?_
  intro p e s m below meth c A ls hC hr hlocks hK hP hD hS hA hl
  generalize List.toArray _ = args at hC ⊢
  obtain ⟨hx, hb, hml, hown, hts⟩ := id hC
  have hret : ∀ (H : Heap) (locs : List Loc) (pc : Nat) (ls : Array Slot) (r : Int32), va_S A s.heap H locs → va_P (dC, dI) vwCl (xW cI cZ h a qph qgr qne qap qle qfu qpc qgd qri qnw qtk qsv qwa qgi qlo qtu) H → va_D A (xW cI cZ h a qph qgr qne qap qle qfu qpc qgd qri qnw qtk qsv qwa qgi qlo qtu) → r = (X0_unitsPerAmpere qph i) → decode cX0_unitsPerAmpere pc = .ok (.ireturn, 1) → W p l e rmX0_unitsPerAmpere s m args below meth c H locs 0 0 (MQ below (va_Qi (fun r (_ : Unit) => r = (X0_unitsPerAmpere qph i)) (kBeh dC dI A (xW cI cZ h a qph qgr qne qap qle qfu qpc qgd qri qnw qtk qsv qwa qgi qlo qtu)) A) args s 0 0 A) (F0 m pc ls [.int r]) := fun H locs pc ls r hS hP hD hv d => k_iret hx hb hr hlocks hS hP hD hv d
  generalize MQ below _ _ _ _ _ _ = Q at hret ⊢
  have hin : ∀ w ∈ wsX00, w ∈ wsX0_unitsPerAmpere := by decide +kernel
  have hw0 := hts (.fieldLink RX0 9 "ChargePark" "phaseOf" "[I") (by decide +kernel)
  have hl : lv_has ls 2 [(0, .ref h), (1, .int i)] := hl
  have hP : va_P (dC, dI) vwCl (xW cI cZ h a qph qgr qne qap qle qfu qpc qgd qri qnw qtk qsv qwa qgi qlo qtu) s.heap := hP
  have hW : ∀ (H : Heap) (locs : List Loc), va_P (dC, dI) vwCl (xW cI cZ h a qph qgr qne qap qle qfu qpc qgd qri qnw qtk qsv qwa qgi qlo qtu) H → va_D A (xW cI cZ h a qph qgr qne qap qle qfu qpc qgd qri qnw qtk qsv qwa qgi qlo qtu) → va_S A s.heap H locs → W p l e rmX0_unitsPerAmpere s m args below meth c H locs 0 0 Q (F0 m 0 ls []) := by
    intro H locs hP hD hS
    refine lv_aload_n hx hb dX0_unitsPerAmpere_0 rfl (lv_at hl 0 rfl) ?_
    refine va_get (D := (dC, dI)) (ci := 0) (v := .ref (a 0)) (C := RX0) (T := TX0) (N := 16) hx hb hts hin hown hK hP 0 rfl rfl 0 (by decide) hw0 (fun _ h9 => h9) rfl dX0_unitsPerAmpere_1 ?_
    refine lv_iload_n hx hb dX0_unitsPerAmpere_4 rfl (lv_at hl 1 rfl) ?_
    refine va_iald (f := qph) hx hb hK hP 1 0 rfl rfl hp dX0_unitsPerAmpere_5 ?_
    refine lv_iconst (v := 3) hx hb dX0_unitsPerAmpere_6 (by decide) ?_
    refine lv_icmp_ne (tgt := 14) hx hb dX0_unitsPerAmpere_7 (by decide) (fun c7 => ?_) (fun c7 => ?_)
    · refine lv_iconst (v := 1) hx hb dX0_unitsPerAmpere_14 (by decide) ?_
      exact hret H locs 15 ls 1 hS hP hD (by rw [X0_unitsPerAmpere, if_neg c7]) dX0_unitsPerAmpere_15
    · refine lv_iconst (v := 3) hx hb dX0_unitsPerAmpere_10 (by decide) ?_
      refine lv_goto (tgt := 15) hx hb dX0_unitsPerAmpere_11 (by decide) ?_
      exact hret H locs 15 ls 3 hS hP hD (by rw [X0_unitsPerAmpere, if_pos c7]) dX0_unitsPerAmpere_15
  exact hW _ _ hP hD hS
def X0_laxityAt (qph : AR) (qgr : AR) (qne : AR) (qap : AR) (qle : AR) (qnw : Int32) (i : Int32) : Int32 := ((X0_stepsLeftAt qle qnw i) - (X0_dividedRoundedUp (qne i.toNatClampNeg) ((X0_lesserOfGreatestAndAppetite qgr qap i) * (X0_unitsPerAmpere qph i))))
abbrev rmX0_laxityAt : Room := { frames := 2, cells := 0, slots := 0, locals := 34 }
theorem hd_X0_laxityAt : yX0_laxityAt.cls = RX0 ∧ yX0_laxityAt.cls ≠ "java/lang/invoke/MethodHandle" ∧ yX0_laxityAt.cls ≠ "java/lang/invoke/VarHandle" ∧ (parseMethodDescriptor yX0_laxityAt.desc).map (fun d => d.parameters.length) = some 1 := by decide +kernel
set_option maxHeartbeats 4000000 in
set_option maxRecDepth 100000 in
theorem c_X0_laxityAt (l : Launch) (dC : Nat → ClassId) (dI : Nat → Nat → Nat) (cI cZ : ClassId) (h : Nat) (a : Nat → Nat) (qph : AR) (qgr : AR) (qne : AR) (qap : AR) (qle : AR) (qfu : AR) (qpc : Int32) (qgd : Int32) (qri : Int32) (qnw : Int32) (qtk : Int32) (qsv : Int32) (qwa : AR) (qgi : AR) (qlo : AR) (qtu : AR) (i : Int32) (hp : vp_in i 8) : Ki l yX0_laxityAt wsX0_laxityAt rmX0_laxityAt dC dI cI cZ [.ref h, .int i] (xW cI cZ h a qph qgr qne qap qle qfu qpc qgd qri qnw qtk qsv qwa qgi qlo qtu) (xW cI cZ h a qph qgr qne qap qle qfu qpc qgd qri qnw qtk qsv qwa qgi qlo qtu) (X0_laxityAt qph qgr qne qap qle qnw i) := by
  refine k_enter_i (cc := cX0_laxityAt) (maxL := 3) (ret := some .int) (by decide) rfl (Nat.le_of_ble_eq_true rfl) ?_
  intro p e s m below meth c A ls hC hr hlocks hK hP hD hS hA hl
  generalize List.toArray _ = args at hC ⊢
  obtain ⟨hx, hb, hml, hown, hts⟩ := id hC
  have hret : ∀ (H : Heap) (locs : List Loc) (pc : Nat) (ls : Array Slot) (r : Int32), va_S A s.heap H locs → va_P (dC, dI) vwCl (xW cI cZ h a qph qgr qne qap qle qfu qpc qgd qri qnw qtk qsv qwa qgi qlo qtu) H → va_D A (xW cI cZ h a qph qgr qne qap qle qfu qpc qgd qri qnw qtk qsv qwa qgi qlo qtu) → r = (X0_laxityAt qph qgr qne qap qle qnw i) → decode cX0_laxityAt pc = .ok (.ireturn, 1) → W p l e rmX0_laxityAt s m args below meth c H locs 0 0 (MQ below (va_Qi (fun r (_ : Unit) => r = (X0_laxityAt qph qgr qne qap qle qnw i)) (kBeh dC dI A (xW cI cZ h a qph qgr qne qap qle qfu qpc qgd qri qnw qtk qsv qwa qgi qlo qtu)) A) args s 0 0 A) (F0 m pc ls [.int r]) := fun H locs pc ls r hS hP hD hv d => k_iret hx hb hr hlocks hS hP hD hv d
  generalize MQ below _ _ _ _ _ _ = Q at hret ⊢
  have hin : ∀ w ∈ wsX00, w ∈ wsX0_laxityAt := by decide +kernel
  have hw0 := hts (.fieldLink RX0 16 "ChargePark" "needOf" "[I") (by decide +kernel)
  have hl : lv_has ls 3 [(0, .ref h), (1, .int i)] := hl
  have hP : va_P (dC, dI) vwCl (xW cI cZ h a qph qgr qne qap qle qfu qpc qgd qri qnw qtk qsv qwa qgi qlo qtu) s.heap := hP
  have hW : ∀ (H : Heap) (locs : List Loc), va_P (dC, dI) vwCl (xW cI cZ h a qph qgr qne qap qle qfu qpc qgd qri qnw qtk qsv qwa qgi qlo qtu) H → va_D A (xW cI cZ h a qph qgr qne qap qle qfu qpc qgd qri qnw qtk qsv qwa qgi qlo qtu) → va_S A s.heap H locs → W p l e rmX0_laxityAt s m args below meth c H locs 0 0 Q (F0 m 0 ls []) := by
    intro H locs hP hD hS
    refine lv_aload_n hx hb dX0_laxityAt_0 rfl (lv_at hl 0 rfl) ?_
    refine lv_iload_n hx hb dX0_laxityAt_1 rfl (lv_at hl 1 rfl) ?_
    refine k_calli (rest := []) (q0 := 0) hC (c_X0_lesserOfGreatestAndAppetite l dC dI cI cZ h a qph qgr qne qap qle qfu qpc qgd qri qnw qtk qsv qwa qgi qlo qtu  i hp) (cwV 1 hts gX0_laxityAt_X0_lesserOfGreatestAndAppetite rfl rfl rfl hd_X0_lesserOfGreatestAndAppetite ⟨Nat.le_of_ble_eq_true rfl, Nat.le_of_ble_eq_true rfl⟩) hK hP hD hS hA rfl rfl rfl hl.1 (Nat.le_of_ble_eq_true rfl) dX0_laxityAt_2 rfl ⟨Nat.zero_le _, Nat.zero_le _⟩ (fun H locs hP hD hS => ?_)
    refine lv_aload_n hx hb dX0_laxityAt_5 rfl (lv_at hl 0 rfl) ?_
    refine lv_iload_n hx hb dX0_laxityAt_6 rfl (lv_at hl 1 rfl) ?_
    refine k_calli (rest := [.int (X0_lesserOfGreatestAndAppetite qgr qap i)]) (q0 := 0) hC (c_X0_unitsPerAmpere l dC dI cI cZ h a qph qgr qne qap qle qfu qpc qgd qri qnw qtk qsv qwa qgi qlo qtu  i hp) (cwV 1 hts gX0_laxityAt_X0_unitsPerAmpere rfl rfl rfl hd_X0_unitsPerAmpere ⟨Nat.le_of_ble_eq_true rfl, Nat.le_of_ble_eq_true rfl⟩) hK hP hD hS hA rfl rfl rfl hl.1 (Nat.le_of_ble_eq_true rfl) dX0_laxityAt_7 rfl ⟨Nat.zero_le _, Nat.zero_le _⟩ (fun H locs hP hD hS => ?_)
    refine lv_imul hx hb dX0_laxityAt_10 ?_
    refine lv_istore_n (lv' := [(2, .int ((X0_lesserOfGreatestAndAppetite qgr qap i) * (X0_unitsPerAmpere qph i))), (0, .ref h), (1, .int i)]) hx hb dX0_laxityAt_11 rfl hl (by decide) rfl (fun ls hl => ?_)
    refine lv_aload_n hx hb dX0_laxityAt_12 rfl (lv_at hl 1 rfl) ?_
    refine lv_iload_n hx hb dX0_laxityAt_13 rfl (lv_at hl 2 rfl) ?_
    refine k_calli (rest := []) (q0 := 0) hC (c_X0_stepsLeftAt l dC dI cI cZ h a qph qgr qne qap qle qfu qpc qgd qri qnw qtk qsv qwa qgi qlo qtu  i hp) (cwV 1 hts gX0_laxityAt_X0_stepsLeftAt rfl rfl rfl hd_X0_stepsLeftAt ⟨Nat.le_of_ble_eq_true rfl, Nat.le_of_ble_eq_true rfl⟩) hK hP hD hS hA rfl rfl rfl hl.1 (Nat.le_of_ble_eq_true rfl) dX0_laxityAt_14 rfl ⟨Nat.zero_le _, Nat.zero_le _⟩ (fun H locs hP hD hS => ?_)
    refine lv_aload_n hx hb dX0_laxityAt_17 rfl (lv_at hl 1 rfl) ?_
    refine va_get (D := (dC, dI)) (ci := 0) (v := .ref (a 2)) (C := RX0) (T := TX0) (N := 16) hx hb hts hin hown hK hP 0 rfl rfl 2 (by decide) hw0 (fun _ h9 => h9) rfl dX0_laxityAt_18 ?_
    refine lv_iload_n hx hb dX0_laxityAt_21 rfl (lv_at hl 2 rfl) ?_
    refine va_iald (f := qne) hx hb hK hP 3 0 rfl rfl hp dX0_laxityAt_22 ?_
    refine lv_iload_n hx hb dX0_laxityAt_23 rfl (lv_at hl 0 rfl) ?_
    refine k_calls (rest := [.int (X0_stepsLeftAt qle qnw i)]) (As := [.int (qne i.toNatClampNeg), .int ((X0_lesserOfGreatestAndAppetite qgr qap i) * (X0_unitsPerAmpere qph i))]) hC (c_X0_dividedRoundedUp l dC dI cI cZ (xW cI cZ h a qph qgr qne qap qle qfu qpc qgd qri qnw qtk qsv qwa qgi qlo qtu) (qne i.toNatClampNeg) ((X0_lesserOfGreatestAndAppetite qgr qap i) * (X0_unitsPerAmpere qph i)) ) (va_cwS 2 hts gX0_laxityAt_X0_dividedRoundedUp rfl rfl rfl hd_X0_dividedRoundedUp ⟨Nat.le_of_ble_eq_true rfl, Nat.le_of_ble_eq_true rfl⟩) hK hP hD hS hA rfl hl.1 (Nat.le_of_ble_eq_true rfl) dX0_laxityAt_24 rfl ⟨Nat.zero_le _, Nat.zero_le _⟩ (fun H locs hP hD hS => ?_)
    refine lv_isub hx hb dX0_laxityAt_27 ?_
    exact hret H locs 28 ls ((X0_stepsLeftAt qle qnw i) - (X0_dividedRoundedUp (qne i.toNatClampNeg) ((X0_lesserOfGreatestAndAppetite qgr qap i) * (X0_unitsPerAmpere qph i)))) hS hP hD (by rw [X0_laxityAt]) dX0_laxityAt_28
  exact hW _ _ hP hD hS
def X0_isToBeGiven (qne : AR) (qle : AR) (qnw : Int32) (i : Int32) : Int32 := (if (qne i.toNatClampNeg) ≤ 0 then 0 else (if (qle i.toNatClampNeg) ≤ qnw then 0 else 1))
abbrev rmX0_isToBeGiven : Room := { frames := 0, cells := 0, slots := 0, locals := 0 }
theorem hd_X0_isToBeGiven : yX0_isToBeGiven.cls = RX0 ∧ yX0_isToBeGiven.cls ≠ "java/lang/invoke/MethodHandle" ∧ yX0_isToBeGiven.cls ≠ "java/lang/invoke/VarHandle" ∧ (parseMethodDescriptor yX0_isToBeGiven.desc).map (fun d => d.parameters.length) = some 1 := by decide +kernel
set_option maxHeartbeats 4000000 in
set_option maxRecDepth 100000 in
theorem c_X0_isToBeGiven (l : Launch) (dC : Nat → ClassId) (dI : Nat → Nat → Nat) (cI cZ : ClassId) (h : Nat) (a : Nat → Nat) (qph : AR) (qgr : AR) (qne : AR) (qap : AR) (qle : AR) (qfu : AR) (qpc : Int32) (qgd : Int32) (qri : Int32) (qnw : Int32) (qtk : Int32) (qsv : Int32) (qwa : AR) (qgi : AR) (qlo : AR) (qtu : AR) (i : Int32) (hp : vp_in i 8) : Ki l yX0_isToBeGiven wsX0_isToBeGiven rmX0_isToBeGiven dC dI cI cZ [.ref h, .int i] (xW cI cZ h a qph qgr qne qap qle qfu qpc qgd qri qnw qtk qsv qwa qgi qlo qtu) (xW cI cZ h a qph qgr qne qap qle qfu qpc qgd qri qnw qtk qsv qwa qgi qlo qtu) (X0_isToBeGiven qne qle qnw i) := by
  refine k_enter_i (cc := cX0_isToBeGiven) (maxL := 2) (ret := some .boolean) (by decide) rfl (Nat.le_of_ble_eq_true rfl) ?_
  intro p e s m below meth c A ls hC hr hlocks hK hP hD hS hA hl
  generalize List.toArray _ = args at hC ⊢
  obtain ⟨hx, hb, hml, hown, hts⟩ := id hC
  have hret : ∀ (H : Heap) (locs : List Loc) (pc : Nat) (ls : Array Slot) (r : Int32), va_S A s.heap H locs → va_P (dC, dI) vwCl (xW cI cZ h a qph qgr qne qap qle qfu qpc qgd qri qnw qtk qsv qwa qgi qlo qtu) H → va_D A (xW cI cZ h a qph qgr qne qap qle qfu qpc qgd qri qnw qtk qsv qwa qgi qlo qtu) → r = (X0_isToBeGiven qne qle qnw i) → (r = 0 ∨ r = 1) → decode cX0_isToBeGiven pc = .ok (.ireturn, 1) → W p l e rmX0_isToBeGiven s m args below meth c H locs 0 0 (MQ below (va_Qi (fun r (_ : Unit) => r = (X0_isToBeGiven qne qle qnw i)) (kBeh dC dI A (xW cI cZ h a qph qgr qne qap qle qfu qpc qgd qri qnw qtk qsv qwa qgi qlo qtu)) A) args s 0 0 A) (F0 m pc ls [.int r]) := fun H locs pc ls r hS hP hD hv hz d => k_zret hx hb hr hlocks hS hP hD hv hz d
  generalize MQ below _ _ _ _ _ _ = Q at hret ⊢
  have hin : ∀ w ∈ wsX00, w ∈ wsX0_isToBeGiven := by decide +kernel
  have hw0 := hts (.fieldLink RX0 16 "ChargePark" "needOf" "[I") (by decide +kernel)
  have hw1 := hts (.fieldLink RX0 22 "ChargePark" "leavesAt" "[I") (by decide +kernel)
  have hw2 := hts (.fieldLink RX0 74 "ChargePark" "now" "I") (by decide +kernel)
  have hl : lv_has ls 2 [(0, .ref h), (1, .int i)] := hl
  have hP : va_P (dC, dI) vwCl (xW cI cZ h a qph qgr qne qap qle qfu qpc qgd qri qnw qtk qsv qwa qgi qlo qtu) s.heap := hP
  have hW : ∀ (H : Heap) (locs : List Loc), va_P (dC, dI) vwCl (xW cI cZ h a qph qgr qne qap qle qfu qpc qgd qri qnw qtk qsv qwa qgi qlo qtu) H → va_D A (xW cI cZ h a qph qgr qne qap qle qfu qpc qgd qri qnw qtk qsv qwa qgi qlo qtu) → va_S A s.heap H locs → W p l e rmX0_isToBeGiven s m args below meth c H locs 0 0 Q (F0 m 0 ls []) := by
    intro H locs hP hD hS
    refine lv_aload_n hx hb dX0_isToBeGiven_0 rfl (lv_at hl 0 rfl) ?_
    refine va_get (D := (dC, dI)) (ci := 0) (v := .ref (a 2)) (C := RX0) (T := TX0) (N := 16) hx hb hts hin hown hK hP 0 rfl rfl 2 (by decide) hw0 (fun _ h9 => h9) rfl dX0_isToBeGiven_1 ?_
    refine lv_iload_n hx hb dX0_isToBeGiven_4 rfl (lv_at hl 1 rfl) ?_
    refine va_iald (f := qne) hx hb hK hP 3 0 rfl rfl hp dX0_isToBeGiven_5 ?_
    refine lv_if_le (tgt := 26) hx hb dX0_isToBeGiven_6 (by decide) (fun c6 => ?_) (fun c6 => ?_)
    · refine lv_iconst (v := 0) hx hb dX0_isToBeGiven_26 (by decide) ?_
      exact hret H locs 27 ls 0 hS hP hD (by rw [X0_isToBeGiven, if_pos c6]) (Or.inl rfl) dX0_isToBeGiven_27
    · refine lv_aload_n hx hb dX0_isToBeGiven_9 rfl (lv_at hl 0 rfl) ?_
      refine va_get (D := (dC, dI)) (ci := 0) (v := .ref (a 4)) (C := RX0) (T := TX0) (N := 16) hx hb hts hin hown hK hP 0 rfl rfl 4 (by decide) hw1 (fun _ h9 => h9) rfl dX0_isToBeGiven_10 ?_
      refine lv_iload_n hx hb dX0_isToBeGiven_13 rfl (lv_at hl 1 rfl) ?_
      refine va_iald (f := qle) hx hb hK hP 5 0 rfl rfl hp dX0_isToBeGiven_14 ?_
      refine lv_aload_n hx hb dX0_isToBeGiven_15 rfl (lv_at hl 0 rfl) ?_
      refine va_get (D := (dC, dI)) (ci := 0) (v := .int qnw) (C := RX0) (T := TX0) (N := 16) hx hb hts hin hown hK hP 0 rfl rfl 9 (by decide) hw2 (fun _ h9 => h9) rfl dX0_isToBeGiven_16 ?_
      refine lv_icmp_le (tgt := 26) hx hb dX0_isToBeGiven_19 (by decide) (fun c19 => ?_) (fun c19 => ?_)
      · refine lv_iconst (v := 0) hx hb dX0_isToBeGiven_26 (by decide) ?_
        exact hret H locs 27 ls 0 hS hP hD (by rw [X0_isToBeGiven, if_neg c6, if_pos c19]) (Or.inl rfl) dX0_isToBeGiven_27
      · refine lv_iconst (v := 1) hx hb dX0_isToBeGiven_22 (by decide) ?_
        refine lv_goto (tgt := 27) hx hb dX0_isToBeGiven_23 (by decide) ?_
        exact hret H locs 27 ls 1 hS hP hD (by rw [X0_isToBeGiven, if_neg c6, if_neg c19]) (Or.inr rfl) dX0_isToBeGiven_27
  exact hW _ _ hP hD hS
def X0_reachAt (qph : AR) (qgr : AR) (qne : AR) (qap : AR) (qle : AR) (qnw : Int32) (i : Int32) : Int32 := (if (X0_isToBeGiven qne qle qnw i) = 0 then 0 else (if (X0_dividedRoundedUp (qne i.toNatClampNeg) (X0_unitsPerAmpere qph i)) < (X0_lesserOfGreatestAndAppetite qgr qap i) then (X0_dividedRoundedUp (qne i.toNatClampNeg) (X0_unitsPerAmpere qph i)) else (X0_lesserOfGreatestAndAppetite qgr qap i)))
abbrev rmX0_reachAt : Room := { frames := 2, cells := 0, slots := 0, locals := 34 }
theorem hd_X0_reachAt : yX0_reachAt.cls = RX0 ∧ yX0_reachAt.cls ≠ "java/lang/invoke/MethodHandle" ∧ yX0_reachAt.cls ≠ "java/lang/invoke/VarHandle" ∧ (parseMethodDescriptor yX0_reachAt.desc).map (fun d => d.parameters.length) = some 1 := by decide +kernel
set_option maxHeartbeats 4000000 in
set_option maxRecDepth 100000 in
theorem c_X0_reachAt (l : Launch) (dC : Nat → ClassId) (dI : Nat → Nat → Nat) (cI cZ : ClassId) (h : Nat) (a : Nat → Nat) (qph : AR) (qgr : AR) (qne : AR) (qap : AR) (qle : AR) (qfu : AR) (qpc : Int32) (qgd : Int32) (qri : Int32) (qnw : Int32) (qtk : Int32) (qsv : Int32) (qwa : AR) (qgi : AR) (qlo : AR) (qtu : AR) (i : Int32) (hp : vp_in i 8) : Ki l yX0_reachAt wsX0_reachAt rmX0_reachAt dC dI cI cZ [.ref h, .int i] (xW cI cZ h a qph qgr qne qap qle qfu qpc qgd qri qnw qtk qsv qwa qgi qlo qtu) (xW cI cZ h a qph qgr qne qap qle qfu qpc qgd qri qnw qtk qsv qwa qgi qlo qtu) (X0_reachAt qph qgr qne qap qle qnw i) := by
  refine k_enter_i (cc := cX0_reachAt) (maxL := 3) (ret := some .int) (by decide) rfl (Nat.le_of_ble_eq_true rfl) ?_
  intro p e s m below meth c A ls hC hr hlocks hK hP hD hS hA hl
  generalize List.toArray _ = args at hC ⊢
  obtain ⟨hx, hb, hml, hown, hts⟩ := id hC
  have hret : ∀ (H : Heap) (locs : List Loc) (pc : Nat) (ls : Array Slot) (r : Int32), va_S A s.heap H locs → va_P (dC, dI) vwCl (xW cI cZ h a qph qgr qne qap qle qfu qpc qgd qri qnw qtk qsv qwa qgi qlo qtu) H → va_D A (xW cI cZ h a qph qgr qne qap qle qfu qpc qgd qri qnw qtk qsv qwa qgi qlo qtu) → r = (X0_reachAt qph qgr qne qap qle qnw i) → decode cX0_reachAt pc = .ok (.ireturn, 1) → W p l e rmX0_reachAt s m args below meth c H locs 0 0 (MQ below (va_Qi (fun r (_ : Unit) => r = (X0_reachAt qph qgr qne qap qle qnw i)) (kBeh dC dI A (xW cI cZ h a qph qgr qne qap qle qfu qpc qgd qri qnw qtk qsv qwa qgi qlo qtu)) A) args s 0 0 A) (F0 m pc ls [.int r]) := fun H locs pc ls r hS hP hD hv d => k_iret hx hb hr hlocks hS hP hD hv d
  generalize MQ below _ _ _ _ _ _ = Q at hret ⊢
  have hin : ∀ w ∈ wsX00, w ∈ wsX0_reachAt := by decide +kernel
  have hw0 := hts (.fieldLink RX0 16 "ChargePark" "needOf" "[I") (by decide +kernel)
  have hw1 := hts (.methodLink RX0 132 Lib.Math.min.name) (by decide +kernel)
  have hw2 := hts (.static Lib.Math.min.name) (by decide +kernel)
  have hw3 := hts (.initialized "java/lang/Math") (by decide +kernel)
  have hw4 := hts (.code Lib.Math.min.name Lib.Math.min.code 2 (some .int)) (by decide +kernel)
  have hl : lv_has ls 3 [(0, .ref h), (1, .int i)] := hl
  have hP : va_P (dC, dI) vwCl (xW cI cZ h a qph qgr qne qap qle qfu qpc qgd qri qnw qtk qsv qwa qgi qlo qtu) s.heap := hP
  have hW : ∀ (H : Heap) (locs : List Loc), va_P (dC, dI) vwCl (xW cI cZ h a qph qgr qne qap qle qfu qpc qgd qri qnw qtk qsv qwa qgi qlo qtu) H → va_D A (xW cI cZ h a qph qgr qne qap qle qfu qpc qgd qri qnw qtk qsv qwa qgi qlo qtu) → va_S A s.heap H locs → W p l e rmX0_reachAt s m args below meth c H locs 0 0 Q (F0 m 0 ls []) := by
    intro H locs hP hD hS
    refine lv_aload_n hx hb dX0_reachAt_0 rfl (lv_at hl 0 rfl) ?_
    refine lv_iload_n hx hb dX0_reachAt_1 rfl (lv_at hl 1 rfl) ?_
    refine k_calli (rest := []) (q0 := 0) hC (c_X0_isToBeGiven l dC dI cI cZ h a qph qgr qne qap qle qfu qpc qgd qri qnw qtk qsv qwa qgi qlo qtu  i hp) (cwV 1 hts gX0_reachAt_X0_isToBeGiven rfl rfl rfl hd_X0_isToBeGiven ⟨Nat.le_of_ble_eq_true rfl, Nat.le_of_ble_eq_true rfl⟩) hK hP hD hS hA rfl rfl rfl hl.1 (Nat.le_of_ble_eq_true rfl) dX0_reachAt_2 rfl ⟨Nat.zero_le _, Nat.zero_le _⟩ (fun H locs hP hD hS => ?_)
    refine lv_if_ne (tgt := 10) hx hb dX0_reachAt_5 (by decide) (fun c5 => ?_) (fun c5 => ?_)
    · refine lv_aload_n hx hb dX0_reachAt_10 rfl (lv_at hl 0 rfl) ?_
      refine va_get (D := (dC, dI)) (ci := 0) (v := .ref (a 2)) (C := RX0) (T := TX0) (N := 16) hx hb hts hin hown hK hP 0 rfl rfl 2 (by decide) hw0 (fun _ h9 => h9) rfl dX0_reachAt_11 ?_
      refine lv_iload_n hx hb dX0_reachAt_14 rfl (lv_at hl 1 rfl) ?_
      refine va_iald (f := qne) hx hb hK hP 3 0 rfl rfl hp dX0_reachAt_15 ?_
      refine lv_aload_n hx hb dX0_reachAt_16 rfl (lv_at hl 0 rfl) ?_
      refine lv_iload_n hx hb dX0_reachAt_17 rfl (lv_at hl 1 rfl) ?_
      refine k_calli (rest := [.int (qne i.toNatClampNeg)]) (q0 := 0) hC (c_X0_unitsPerAmpere l dC dI cI cZ h a qph qgr qne qap qle qfu qpc qgd qri qnw qtk qsv qwa qgi qlo qtu  i hp) (cwV 1 hts gX0_reachAt_X0_unitsPerAmpere rfl rfl rfl hd_X0_unitsPerAmpere ⟨Nat.le_of_ble_eq_true rfl, Nat.le_of_ble_eq_true rfl⟩) hK hP hD hS hA rfl rfl rfl hl.1 (Nat.le_of_ble_eq_true rfl) dX0_reachAt_18 rfl ⟨Nat.zero_le _, Nat.zero_le _⟩ (fun H locs hP hD hS => ?_)
      refine k_calls (rest := []) (As := [.int (qne i.toNatClampNeg), .int (X0_unitsPerAmpere qph i)]) hC (c_X0_dividedRoundedUp l dC dI cI cZ (xW cI cZ h a qph qgr qne qap qle qfu qpc qgd qri qnw qtk qsv qwa qgi qlo qtu) (qne i.toNatClampNeg) (X0_unitsPerAmpere qph i) ) (va_cwS 2 hts gX0_reachAt_X0_dividedRoundedUp rfl rfl rfl hd_X0_dividedRoundedUp ⟨Nat.le_of_ble_eq_true rfl, Nat.le_of_ble_eq_true rfl⟩) hK hP hD hS hA rfl hl.1 (Nat.le_of_ble_eq_true rfl) dX0_reachAt_21 rfl ⟨Nat.zero_le _, Nat.zero_le _⟩ (fun H locs hP hD hS => ?_)
      refine lv_istore_n (lv' := [(2, .int (X0_dividedRoundedUp (qne i.toNatClampNeg) (X0_unitsPerAmpere qph i))), (0, .ref h), (1, .int i)]) hx hb dX0_reachAt_24 rfl hl (by decide) rfl (fun ls hl => ?_)
      refine lv_aload_n hx hb dX0_reachAt_25 rfl (lv_at hl 1 rfl) ?_
      refine lv_iload_n hx hb dX0_reachAt_26 rfl (lv_at hl 2 rfl) ?_
      refine k_calli (rest := []) (q0 := 0) hC (c_X0_lesserOfGreatestAndAppetite l dC dI cI cZ h a qph qgr qne qap qle qfu qpc qgd qri qnw qtk qsv qwa qgi qlo qtu  i hp) (cwV 1 hts gX0_reachAt_X0_lesserOfGreatestAndAppetite rfl rfl rfl hd_X0_lesserOfGreatestAndAppetite ⟨Nat.le_of_ble_eq_true rfl, Nat.le_of_ble_eq_true rfl⟩) hK hP hD hS hA rfl rfl rfl hl.1 (Nat.le_of_ble_eq_true rfl) dX0_reachAt_27 rfl ⟨Nat.zero_le _, Nat.zero_le _⟩ (fun H locs hP hD hS => ?_)
      refine lv_iload_n hx hb dX0_reachAt_30 rfl (lv_at hl 0 rfl) ?_
      refine va_mmin hx hb (hml.trans hl.1.symm) hown hw1 hw2 hw3 hw4 (Nat.le_of_ble_eq_true rfl) (Nat.le_of_ble_eq_true rfl) (Nat.zero_le _) (Nat.zero_le _) dX0_reachAt_31 ?_
      exact hret H locs 34 ls (if (X0_dividedRoundedUp (qne i.toNatClampNeg) (X0_unitsPerAmpere qph i)) < (X0_lesserOfGreatestAndAppetite qgr qap i) then (X0_dividedRoundedUp (qne i.toNatClampNeg) (X0_unitsPerAmpere qph i)) else (X0_lesserOfGreatestAndAppetite qgr qap i)) hS hP hD (by rw [X0_reachAt, if_neg c5]) dX0_reachAt_34
    · refine lv_iconst (v := 0) hx hb dX0_reachAt_8 (by decide) ?_
      exact hret H locs 9 ls 0 hS hP hD (by rw [X0_reachAt, if_pos c5]) dX0_reachAt_9
  exact hW _ _ hP hD hS
def X0_isAt (qph : AR) (i : Int32) (f : Int32) : Int32 := (if (qph i.toNatClampNeg) = f then 1 else (if (qph i.toNatClampNeg) = 3 then 1 else 0))
abbrev rmX0_isAt : Room := { frames := 0, cells := 0, slots := 0, locals := 0 }
theorem hd_X0_isAt : yX0_isAt.cls = RX0 ∧ yX0_isAt.cls ≠ "java/lang/invoke/MethodHandle" ∧ yX0_isAt.cls ≠ "java/lang/invoke/VarHandle" ∧ (parseMethodDescriptor yX0_isAt.desc).map (fun d => d.parameters.length) = some 2 := by decide +kernel
set_option maxHeartbeats 4000000 in
set_option maxRecDepth 100000 in
theorem c_X0_isAt (l : Launch) (dC : Nat → ClassId) (dI : Nat → Nat → Nat) (cI cZ : ClassId) (h : Nat) (a : Nat → Nat) (qph : AR) (qgr : AR) (qne : AR) (qap : AR) (qle : AR) (qfu : AR) (qpc : Int32) (qgd : Int32) (qri : Int32) (qnw : Int32) (qtk : Int32) (qsv : Int32) (qwa : AR) (qgi : AR) (qlo : AR) (qtu : AR) (i : Int32) (f : Int32) (hp : vp_in i 8) : Ki l yX0_isAt wsX0_isAt rmX0_isAt dC dI cI cZ [.ref h, .int i, .int f] (xW cI cZ h a qph qgr qne qap qle qfu qpc qgd qri qnw qtk qsv qwa qgi qlo qtu) (xW cI cZ h a qph qgr qne qap qle qfu qpc qgd qri qnw qtk qsv qwa qgi qlo qtu) (X0_isAt qph i f) := by
  refine k_enter_i (cc := cX0_isAt) (maxL := 3) (ret := some .boolean) (by decide) rfl (Nat.le_of_ble_eq_true rfl) ?_
  intro p e s m below meth c A ls hC hr hlocks hK hP hD hS hA hl
  generalize List.toArray _ = args at hC ⊢
  obtain ⟨hx, hb, hml, hown, hts⟩ := id hC
  have hret : ∀ (H : Heap) (locs : List Loc) (pc : Nat) (ls : Array Slot) (r : Int32), va_S A s.heap H locs → va_P (dC, dI) vwCl (xW cI cZ h a qph qgr qne qap qle qfu qpc qgd qri qnw qtk qsv qwa qgi qlo qtu) H → va_D A (xW cI cZ h a qph qgr qne qap qle qfu qpc qgd qri qnw qtk qsv qwa qgi qlo qtu) → r = (X0_isAt qph i f) → (r = 0 ∨ r = 1) → decode cX0_isAt pc = .ok (.ireturn, 1) → W p l e rmX0_isAt s m args below meth c H locs 0 0 (MQ below (va_Qi (fun r (_ : Unit) => r = (X0_isAt qph i f)) (kBeh dC dI A (xW cI cZ h a qph qgr qne qap qle qfu qpc qgd qri qnw qtk qsv qwa qgi qlo qtu)) A) args s 0 0 A) (F0 m pc ls [.int r]) := fun H locs pc ls r hS hP hD hv hz d => k_zret hx hb hr hlocks hS hP hD hv hz d
  generalize MQ below _ _ _ _ _ _ = Q at hret ⊢
  have hin : ∀ w ∈ wsX00, w ∈ wsX0_isAt := by decide +kernel
  have hw0 := hts (.fieldLink RX0 9 "ChargePark" "phaseOf" "[I") (by decide +kernel)
  have hl : lv_has ls 3 [(0, .ref h), (1, .int i), (2, .int f)] := hl
  have hP : va_P (dC, dI) vwCl (xW cI cZ h a qph qgr qne qap qle qfu qpc qgd qri qnw qtk qsv qwa qgi qlo qtu) s.heap := hP
  have hW : ∀ (H : Heap) (locs : List Loc), va_P (dC, dI) vwCl (xW cI cZ h a qph qgr qne qap qle qfu qpc qgd qri qnw qtk qsv qwa qgi qlo qtu) H → va_D A (xW cI cZ h a qph qgr qne qap qle qfu qpc qgd qri qnw qtk qsv qwa qgi qlo qtu) → va_S A s.heap H locs → W p l e rmX0_isAt s m args below meth c H locs 0 0 Q (F0 m 0 ls []) := by
    intro H locs hP hD hS
    refine lv_aload_n hx hb dX0_isAt_0 rfl (lv_at hl 0 rfl) ?_
    refine va_get (D := (dC, dI)) (ci := 0) (v := .ref (a 0)) (C := RX0) (T := TX0) (N := 16) hx hb hts hin hown hK hP 0 rfl rfl 0 (by decide) hw0 (fun _ h9 => h9) rfl dX0_isAt_1 ?_
    refine lv_iload_n hx hb dX0_isAt_4 rfl (lv_at hl 1 rfl) ?_
    refine va_iald (f := qph) hx hb hK hP 1 0 rfl rfl hp dX0_isAt_5 ?_
    refine lv_iload_n hx hb dX0_isAt_6 rfl (lv_at hl 2 rfl) ?_
    refine lv_icmp_eq (tgt := 20) hx hb dX0_isAt_7 (by decide) (fun c7 => ?_) (fun c7 => ?_)
    · refine lv_iconst (v := 1) hx hb dX0_isAt_20 (by decide) ?_
      refine lv_goto (tgt := 25) hx hb dX0_isAt_21 (by decide) ?_
      exact hret H locs 25 ls 1 hS hP hD (by rw [X0_isAt, if_pos c7]) (Or.inr rfl) dX0_isAt_25
    · refine lv_aload_n hx hb dX0_isAt_10 rfl (lv_at hl 0 rfl) ?_
      refine va_get (D := (dC, dI)) (ci := 0) (v := .ref (a 0)) (C := RX0) (T := TX0) (N := 16) hx hb hts hin hown hK hP 0 rfl rfl 0 (by decide) hw0 (fun _ h9 => h9) rfl dX0_isAt_11 ?_
      refine lv_iload_n hx hb dX0_isAt_14 rfl (lv_at hl 1 rfl) ?_
      refine va_iald (f := qph) hx hb hK hP 1 0 rfl rfl hp dX0_isAt_15 ?_
      refine lv_iconst (v := 3) hx hb dX0_isAt_16 (by decide) ?_
      refine lv_icmp_ne (tgt := 24) hx hb dX0_isAt_17 (by decide) (fun c17 => ?_) (fun c17 => ?_)
      · refine lv_iconst (v := 0) hx hb dX0_isAt_24 (by decide) ?_
        exact hret H locs 25 ls 0 hS hP hD (by rw [X0_isAt, if_neg c7, if_neg c17]) (Or.inl rfl) dX0_isAt_25
      · refine lv_iconst (v := 1) hx hb dX0_isAt_20 (by decide) ?_
        refine lv_goto (tgt := 25) hx hb dX0_isAt_21 (by decide) ?_
        exact hret H locs 25 ls 1 hS hP hD (by rw [X0_isAt, if_neg c7, if_pos c17]) (Or.inr rfl) dX0_isAt_25
  exact hW _ _ hP hD hS
def X0_give_L12 (qph : AR) (i : Int32) (x : Int32) : Nat → Nat → AR → AR
  | 0, k, vlo => vlo
  | j + 1, k, vlo => (if (X0_isAt qph i (nI k)) = 0 then X0_give_L12 qph i x  j (k + 1) vlo else X0_give_L12 qph i x  j (k + 1) (upd vlo (nI k).toNatClampNeg ((vlo (nI k).toNatClampNeg) + x)))
def X0_give (qph : AR) (qgi : AR) (qlo : AR) (i : Int32) (x : Int32) : AR × AR := ((upd qgi i.toNatClampNeg ((qgi i.toNatClampNeg) + x)), ((X0_give_L12 qph i x  3 0 qlo)))
abbrev rmX0_give : Room := { frames := 1, cells := 0, slots := 0, locals := 22 }
theorem hd_X0_give : yX0_give.cls = RX0 ∧ yX0_give.cls ≠ "java/lang/invoke/MethodHandle" ∧ yX0_give.cls ≠ "java/lang/invoke/VarHandle" ∧ (parseMethodDescriptor yX0_give.desc).map (fun d => d.parameters.length) = some 2 := by decide +kernel
set_option maxHeartbeats 4000000 in
set_option maxRecDepth 100000 in
theorem c_X0_give (l : Launch) (dC : Nat → ClassId) (dI : Nat → Nat → Nat) (cI cZ : ClassId) (h : Nat) (a : Nat → Nat) (qph : AR) (qgr : AR) (qne : AR) (qap : AR) (qle : AR) (qfu : AR) (qpc : Int32) (qgd : Int32) (qri : Int32) (qnw : Int32) (qtk : Int32) (qsv : Int32) (qwa : AR) (qgi : AR) (qlo : AR) (qtu : AR) (i : Int32) (x : Int32) (hp : vp_in i 8) : Kv l yX0_give wsX0_give rmX0_give dC dI cI cZ [.ref h, .int i, .int x] (xW cI cZ h a qph qgr qne qap qle qfu qpc qgd qri qnw qtk qsv qwa qgi qlo qtu) (xW cI cZ h a qph qgr qne qap qle qfu qpc qgd qri qnw qtk qsv qwa ((X0_give qph qgi qlo i x).1) ((X0_give qph qgi qlo i x).2) qtu) := by
  refine k_enter_v (cc := cX0_give) (maxL := 4) (ret := none) (by decide) rfl (Nat.le_of_ble_eq_true rfl) ?_
  intro p e s m below meth c A ls hC hr hlocks hK hP hD hS hA hl
  generalize List.toArray _ = args at hC ⊢
  obtain ⟨hx, hb, hml, hown, hts⟩ := id hC
  have hret : ∀ (H : Heap) (locs : List Loc) (pc : Nat) (ls : Array Slot), va_S A s.heap H locs → va_P (dC, dI) vwCl (xW cI cZ h a qph qgr qne qap qle qfu qpc qgd qri qnw qtk qsv qwa ((X0_give qph qgi qlo i x).1) ((X0_give qph qgi qlo i x).2) qtu) H → va_D A (xW cI cZ h a qph qgr qne qap qle qfu qpc qgd qri qnw qtk qsv qwa ((X0_give qph qgi qlo i x).1) ((X0_give qph qgi qlo i x).2) qtu) → decode cX0_give pc = .ok (.return_, 1) → W p l e rmX0_give s m args below meth c H locs 0 0 (MQ below (va_Qv (fun (_ : Unit) => True) (kBeh dC dI A (xW cI cZ h a qph qgr qne qap qle qfu qpc qgd qri qnw qtk qsv qwa ((X0_give qph qgi qlo i x).1) ((X0_give qph qgi qlo i x).2) qtu)) A) args s 0 0 A) (F0 m pc ls []) := fun H locs pc ls hS hP hD d => k_vret hx hb hr hlocks hS hP hD d
  generalize MQ below _ _ _ _ _ _ = Q at hret ⊢
  have hin : ∀ w ∈ wsX00, w ∈ wsX0_give := by decide +kernel
  have hw0 := hts (.fieldLink RX0 28 "ChargePark" "given" "[I") (by decide +kernel)
  have hw1 := hts (.fieldLink RX0 34 "ChargePark" "loadOf" "[I") (by decide +kernel)
  have hl : lv_has ls 4 [(0, .ref h), (1, .int i), (2, .int x)] := hl
  have hP : va_P (dC, dI) vwCl (xW cI cZ h a qph qgr qne qap qle qfu qpc qgd qri qnw qtk qsv qwa qgi qlo qtu) s.heap := hP
  have hW : ∀ (H : Heap) (locs : List Loc), va_P (dC, dI) vwCl (xW cI cZ h a qph qgr qne qap qle qfu qpc qgd qri qnw qtk qsv qwa qgi qlo qtu) H → va_D A (xW cI cZ h a qph qgr qne qap qle qfu qpc qgd qri qnw qtk qsv qwa qgi qlo qtu) → va_S A s.heap H locs → W p l e rmX0_give s m args below meth c H locs 0 0 Q (F0 m 0 ls []) := by
    intro H locs hP hD hS
    refine lv_aload_n hx hb dX0_give_0 rfl (lv_at hl 0 rfl) ?_
    refine va_get (D := (dC, dI)) (ci := 0) (v := .ref (a 13)) (C := RX0) (T := TX0) (N := 16) hx hb hts hin hown hK hP 0 rfl rfl 13 (by decide) hw0 (fun _ h9 => h9) rfl dX0_give_1 ?_
    refine lv_iload_n hx hb dX0_give_4 rfl (lv_at hl 1 rfl) ?_
    refine lv_dup2_11 hx hb dX0_give_5 rfl rfl ?_
    refine va_iald (f := qgi) hx hb hK hP 8 0 rfl rfl hp dX0_give_6 ?_
    refine lv_iload_n hx hb dX0_give_7 rfl (lv_at hl 2 rfl) ?_
    refine lv_iadd hx hb dX0_give_8 ?_
    refine va_iast (f := qgi) hx hb hK hP hD hS 8 0 rfl rfl hp dX0_give_9 (fun H locs hP hD hS => ?_)
    obtain ⟨z1, hz1⟩ : ∃ z : AR, z = (upd qgi i.toNatClampNeg ((qgi i.toNatClampNeg) + x)) := ⟨_, rfl⟩
    rw [← hz1] at hP hD
    have hP : va_P (dC, dI) vwCl (xW cI cZ h a qph qgr qne qap qle qfu qpc qgd qri qnw qtk qsv qwa z1 qlo qtu) H := hP
    have hD : va_D A (xW cI cZ h a qph qgr qne qap qle qfu qpc qgd qri qnw qtk qsv qwa z1 qlo qtu) := hD
    refine lv_iconst (v := 0) hx hb dX0_give_10 (by decide) ?_
    refine lv_istore_n (lv' := [(3, .int 0), (0, .ref h), (1, .int i), (2, .int x)]) hx hb dX0_give_11 rfl hl (by decide) rfl (fun ls hl => ?_)
    have cont12 : ∀ (z2 : AR), z2 = (X0_give_L12 qph i x  3 0 qlo) → ∀ (H : Heap) (locs : List Loc) (ls : Array Slot), va_P (dC, dI) vwCl (xW cI cZ h a qph qgr qne qap qle qfu qpc qgd qri qnw qtk qsv qwa z1 z2 qtu) H → va_D A (xW cI cZ h a qph qgr qne qap qle qfu qpc qgd qri qnw qtk qsv qwa z1 z2 qtu) → va_S A s.heap H locs → lv_has ls 4 [(0, .ref h), (1, .int i), (2, .int x)] → W p l e rmX0_give s m args below meth c H locs 0 0 Q (F0 m 42 ls []) := by
      intro z2 hz2 H locs ls hP hD hS hl
      subst hz1 hz2
      have hP : va_P (dC, dI) vwCl (xW cI cZ h a qph qgr qne qap qle qfu qpc qgd qri qnw qtk qsv qwa ((X0_give qph qgi qlo i x).1) ((X0_give qph qgi qlo i x).2) qtu) H := by rw [X0_give]; exact hP
      have hD : va_D A (xW cI cZ h a qph qgr qne qap qle qfu qpc qgd qri qnw qtk qsv qwa ((X0_give qph qgi qlo i x).1) ((X0_give qph qgi qlo i x).2) qtu) := by rw [X0_give]; exact hD
      exact hret H locs 42 ls hS hP hD dX0_give_42
    have loop12 : ∀ (j k : Nat) (vlo : AR), k + j = 3 → X0_give_L12 qph i x  j k vlo = (X0_give_L12 qph i x  3 0 qlo) → ∀ (H : Heap) (locs : List Loc) (ls : Array Slot), va_P (dC, dI) vwCl (xW cI cZ h a qph qgr qne qap qle qfu qpc qgd qri qnw qtk qsv qwa z1 vlo qtu) H → va_D A (xW cI cZ h a qph qgr qne qap qle qfu qpc qgd qri qnw qtk qsv qwa z1 vlo qtu) → va_S A s.heap H locs → lv_has ls 4 [(0, .ref h), (1, .int i), (2, .int x), (3, .int (nI k))] → W p l e rmX0_give s m args below meth c H locs 0 0 Q (F0 m 12 ls []) := by
      intro j
      induction j with
      | zero =>
        intro k vlo hk hR  H locs ls hP hD hS hl
        refine lv_iload_n hx hb dX0_give_12 rfl (lv_at hl 3 rfl) ?_
        refine lv_iconst (v := 3) hx hb dX0_give_13 (by decide) ?_
        refine lv_icmp_ge (tgt := 42) hx hb dX0_give_14 (by decide) (fun _ => ?_) (fun c => absurd (by rw [nIl3]; exact nI_le (by omega) (by omega)) c)
        subst hz1
        exact cont12 vlo (by rw [← hR, X0_give_L12]) H locs ls hP hD hS (lv_sub hl [0, 1, 2] rfl)
      | succ j ih =>
        intro k vlo hk hR  H locs ls hP hD hS hl
        refine lv_iload_n hx hb dX0_give_12 rfl (lv_at hl 3 rfl) ?_
        refine lv_iconst (v := 3) hx hb dX0_give_13 (by decide) ?_
        refine lv_icmp_ge (tgt := 42) hx hb dX0_give_14 (by decide) (fun c => absurd c (by rw [nIl3]; exact nI_ge (by omega) (by omega))) (fun _ => ?_)
        refine lv_aload_n hx hb dX0_give_17 rfl (lv_at hl 0 rfl) ?_
        refine lv_iload_n hx hb dX0_give_18 rfl (lv_at hl 1 rfl) ?_
        refine lv_iload_n hx hb dX0_give_19 rfl (lv_at hl 3 rfl) ?_
        refine k_calli (rest := []) (q0 := 0) hC (c_X0_isAt l dC dI cI cZ h a qph qgr qne qap qle qfu qpc qgd qri qnw qtk qsv qwa z1 vlo qtu  i (nI k) hp) (cwV 2 hts gX0_give_X0_isAt rfl rfl rfl hd_X0_isAt ⟨Nat.le_of_ble_eq_true rfl, Nat.le_of_ble_eq_true rfl⟩) hK hP hD hS hA rfl rfl rfl hl.1 (Nat.le_of_ble_eq_true rfl) dX0_give_20 rfl ⟨Nat.zero_le _, Nat.zero_le _⟩ (fun H locs hP hD hS => ?_)
        refine lv_if_eq (tgt := 36) hx hb dX0_give_23 (by decide) (fun c23 => ?_) (fun c23 => ?_)
        · refine lv_iinc (v := (nI (k + 1))) (lv' := [(3, .int (nI (k + 1))), (0, .ref h), (1, .int i), (2, .int x)]) hx hb dX0_give_36 hl (k := 3) rfl (nI_1 k) (by decide) rfl (fun ls hl => ?_)
          refine lv_goto (tgt := 12) hx hb dX0_give_39 (by decide) ?_
          subst hz1
          exact ih (k + 1) vlo (by omega) (by rw [← hR, X0_give_L12, if_pos c23])  H locs ls hP hD hS (lv_sub hl [1, 2, 3, 0] rfl)
        · refine lv_aload_n hx hb dX0_give_26 rfl (lv_at hl 0 rfl) ?_
          refine va_get (D := (dC, dI)) (ci := 0) (v := .ref (a 14)) (C := RX0) (T := TX0) (N := 16) hx hb hts hin hown hK hP 0 rfl rfl 14 (by decide) hw1 (fun _ h9 => h9) rfl dX0_give_27 ?_
          refine lv_iload_n hx hb dX0_give_30 rfl (lv_at hl 3 rfl) ?_
          refine lv_dup2_11 hx hb dX0_give_31 rfl rfl ?_
          refine va_iald (f := vlo) hx hb hK hP 9 0 rfl rfl (vp_in_nI (by omega) (by decide)) dX0_give_32 ?_
          refine lv_iload_n hx hb dX0_give_33 rfl (lv_at hl 2 rfl) ?_
          refine lv_iadd hx hb dX0_give_34 ?_
          refine va_iast (f := vlo) hx hb hK hP hD hS 9 0 rfl rfl (vp_in_nI (by omega) (by decide)) dX0_give_35 (fun H locs hP hD hS => ?_)
          obtain ⟨z3, hz3⟩ : ∃ z : AR, z = (upd vlo (nI k).toNatClampNeg ((vlo (nI k).toNatClampNeg) + x)) := ⟨_, rfl⟩
          rw [← hz3] at hP hD
          have hP : va_P (dC, dI) vwCl (xW cI cZ h a qph qgr qne qap qle qfu qpc qgd qri qnw qtk qsv qwa z1 z3 qtu) H := hP
          have hD : va_D A (xW cI cZ h a qph qgr qne qap qle qfu qpc qgd qri qnw qtk qsv qwa z1 z3 qtu) := hD
          refine lv_iinc (v := (nI (k + 1))) (lv' := [(3, .int (nI (k + 1))), (0, .ref h), (1, .int i), (2, .int x)]) hx hb dX0_give_36 hl (k := 3) rfl (nI_1 k) (by decide) rfl (fun ls hl => ?_)
          refine lv_goto (tgt := 12) hx hb dX0_give_39 (by decide) ?_
          subst hz1 hz3
          exact ih (k + 1) (upd vlo (nI k).toNatClampNeg ((vlo (nI k).toNatClampNeg) + x)) (by omega) (by rw [← hR, X0_give_L12, if_neg c23])  H locs ls hP hD hS (lv_sub hl [1, 2, 3, 0] rfl)
    exact loop12 3 0 qlo (by omega) rfl  H locs ls hP hD hS (lv_sub hl [1, 2, 3, 0] rfl)
  exact hW _ _ hP hD hS
def X0_roomFor_L5 (qph : AR) (qfu : AR) (qlo : AR) (i : Int32) : Nat → Nat → Int32 → Int32
  | 0, k, ro => ro
  | j + 1, k, ro => (if (X0_isAt qph i (nI k)) = 0 then X0_roomFor_L5 qph qfu qlo i  j (k + 1) ro else X0_roomFor_L5 qph qfu qlo i  j (k + 1) (if ((qfu (nI k).toNatClampNeg) - (qlo (nI k).toNatClampNeg)) < ro then ((qfu (nI k).toNatClampNeg) - (qlo (nI k).toNatClampNeg)) else ro))
def X0_roomFor (qph : AR) (qfu : AR) (qlo : AR) (i : Int32) : Int32 := ((X0_roomFor_L5 qph qfu qlo i  3 0 100))
abbrev rmX0_roomFor : Room := { frames := 1, cells := 0, slots := 0, locals := 22 }
theorem hd_X0_roomFor : yX0_roomFor.cls = RX0 ∧ yX0_roomFor.cls ≠ "java/lang/invoke/MethodHandle" ∧ yX0_roomFor.cls ≠ "java/lang/invoke/VarHandle" ∧ (parseMethodDescriptor yX0_roomFor.desc).map (fun d => d.parameters.length) = some 1 := by decide +kernel
set_option maxHeartbeats 4000000 in
set_option maxRecDepth 100000 in
theorem c_X0_roomFor (l : Launch) (dC : Nat → ClassId) (dI : Nat → Nat → Nat) (cI cZ : ClassId) (h : Nat) (a : Nat → Nat) (qph : AR) (qgr : AR) (qne : AR) (qap : AR) (qle : AR) (qfu : AR) (qpc : Int32) (qgd : Int32) (qri : Int32) (qnw : Int32) (qtk : Int32) (qsv : Int32) (qwa : AR) (qgi : AR) (qlo : AR) (qtu : AR) (i : Int32) (hp : vp_in i 8) : Ki l yX0_roomFor wsX0_roomFor rmX0_roomFor dC dI cI cZ [.ref h, .int i] (xW cI cZ h a qph qgr qne qap qle qfu qpc qgd qri qnw qtk qsv qwa qgi qlo qtu) (xW cI cZ h a qph qgr qne qap qle qfu qpc qgd qri qnw qtk qsv qwa qgi qlo qtu) (X0_roomFor qph qfu qlo i) := by
  refine k_enter_i (cc := cX0_roomFor) (maxL := 4) (ret := some .int) (by decide) rfl (Nat.le_of_ble_eq_true rfl) ?_
  intro p e s m below meth c A ls hC hr hlocks hK hP hD hS hA hl
  generalize List.toArray _ = args at hC ⊢
  obtain ⟨hx, hb, hml, hown, hts⟩ := id hC
  have hret : ∀ (H : Heap) (locs : List Loc) (pc : Nat) (ls : Array Slot) (r : Int32), va_S A s.heap H locs → va_P (dC, dI) vwCl (xW cI cZ h a qph qgr qne qap qle qfu qpc qgd qri qnw qtk qsv qwa qgi qlo qtu) H → va_D A (xW cI cZ h a qph qgr qne qap qle qfu qpc qgd qri qnw qtk qsv qwa qgi qlo qtu) → r = (X0_roomFor qph qfu qlo i) → decode cX0_roomFor pc = .ok (.ireturn, 1) → W p l e rmX0_roomFor s m args below meth c H locs 0 0 (MQ below (va_Qi (fun r (_ : Unit) => r = (X0_roomFor qph qfu qlo i)) (kBeh dC dI A (xW cI cZ h a qph qgr qne qap qle qfu qpc qgd qri qnw qtk qsv qwa qgi qlo qtu)) A) args s 0 0 A) (F0 m pc ls [.int r]) := fun H locs pc ls r hS hP hD hv d => k_iret hx hb hr hlocks hS hP hD hv d
  generalize MQ below _ _ _ _ _ _ = Q at hret ⊢
  have hin : ∀ w ∈ wsX00, w ∈ wsX0_roomFor := by decide +kernel
  have hw0 := hts (.fieldLink RX0 37 "ChargePark" "fuseOf" "[I") (by decide +kernel)
  have hw1 := hts (.fieldLink RX0 34 "ChargePark" "loadOf" "[I") (by decide +kernel)
  have hw2 := hts (.methodLink RX0 132 Lib.Math.min.name) (by decide +kernel)
  have hw3 := hts (.static Lib.Math.min.name) (by decide +kernel)
  have hw4 := hts (.initialized "java/lang/Math") (by decide +kernel)
  have hw5 := hts (.code Lib.Math.min.name Lib.Math.min.code 2 (some .int)) (by decide +kernel)
  have hl : lv_has ls 4 [(0, .ref h), (1, .int i)] := hl
  have hP : va_P (dC, dI) vwCl (xW cI cZ h a qph qgr qne qap qle qfu qpc qgd qri qnw qtk qsv qwa qgi qlo qtu) s.heap := hP
  have hW : ∀ (H : Heap) (locs : List Loc), va_P (dC, dI) vwCl (xW cI cZ h a qph qgr qne qap qle qfu qpc qgd qri qnw qtk qsv qwa qgi qlo qtu) H → va_D A (xW cI cZ h a qph qgr qne qap qle qfu qpc qgd qri qnw qtk qsv qwa qgi qlo qtu) → va_S A s.heap H locs → W p l e rmX0_roomFor s m args below meth c H locs 0 0 Q (F0 m 0 ls []) := by
    intro H locs hP hD hS
    refine lv_bipush (v := 100) hx hb dX0_roomFor_0 (by decide) ?_
    refine lv_istore_n (lv' := [(2, .int 100), (0, .ref h), (1, .int i)]) hx hb dX0_roomFor_2 rfl hl (by decide) rfl (fun ls hl => ?_)
    refine lv_iconst (v := 0) hx hb dX0_roomFor_3 (by decide) ?_
    refine lv_istore_n (lv' := [(3, .int 0), (2, .int 100), (0, .ref h), (1, .int i)]) hx hb dX0_roomFor_4 rfl hl (by decide) rfl (fun ls hl => ?_)
    have cont5 : ∀ (z1 : Int32), z1 = (X0_roomFor_L5 qph qfu qlo i  3 0 100) → ∀ (H : Heap) (locs : List Loc) (ls : Array Slot), va_P (dC, dI) vwCl (xW cI cZ h a qph qgr qne qap qle qfu qpc qgd qri qnw qtk qsv qwa qgi qlo qtu) H → va_D A (xW cI cZ h a qph qgr qne qap qle qfu qpc qgd qri qnw qtk qsv qwa qgi qlo qtu) → va_S A s.heap H locs → lv_has ls 4 [(0, .ref h), (1, .int i), (2, .int z1)] → W p l e rmX0_roomFor s m args below meth c H locs 0 0 Q (F0 m 43 ls []) := by
      intro z1 hz1 H locs ls hP hD hS hl
      refine lv_iload_n hx hb dX0_roomFor_43 rfl (lv_at hl 2 rfl) ?_
      subst hz1
      exact hret H locs 44 ls ((X0_roomFor_L5 qph qfu qlo i  3 0 100)) hS hP hD (by rw [X0_roomFor]) dX0_roomFor_44
    have loop5 : ∀ (j k : Nat) (ro : Int32), k + j = 3 → X0_roomFor_L5 qph qfu qlo i  j k ro = (X0_roomFor_L5 qph qfu qlo i  3 0 100) → ∀ (H : Heap) (locs : List Loc) (ls : Array Slot), va_P (dC, dI) vwCl (xW cI cZ h a qph qgr qne qap qle qfu qpc qgd qri qnw qtk qsv qwa qgi qlo qtu) H → va_D A (xW cI cZ h a qph qgr qne qap qle qfu qpc qgd qri qnw qtk qsv qwa qgi qlo qtu) → va_S A s.heap H locs → lv_has ls 4 [(0, .ref h), (1, .int i), (2, .int ro), (3, .int (nI k))] → W p l e rmX0_roomFor s m args below meth c H locs 0 0 Q (F0 m 5 ls []) := by
      intro j
      induction j with
      | zero =>
        intro k ro hk hR  H locs ls hP hD hS hl
        refine lv_iload_n hx hb dX0_roomFor_5 rfl (lv_at hl 3 rfl) ?_
        refine lv_iconst (v := 3) hx hb dX0_roomFor_6 (by decide) ?_
        refine lv_icmp_ge (tgt := 43) hx hb dX0_roomFor_7 (by decide) (fun _ => ?_) (fun c => absurd (by rw [nIl3]; exact nI_le (by omega) (by omega)) c)
        exact cont5 ro (by rw [← hR, X0_roomFor_L5]) H locs ls hP hD hS (lv_sub hl [0, 1, 2] rfl)
      | succ j ih =>
        intro k ro hk hR  H locs ls hP hD hS hl
        refine lv_iload_n hx hb dX0_roomFor_5 rfl (lv_at hl 3 rfl) ?_
        refine lv_iconst (v := 3) hx hb dX0_roomFor_6 (by decide) ?_
        refine lv_icmp_ge (tgt := 43) hx hb dX0_roomFor_7 (by decide) (fun c => absurd c (by rw [nIl3]; exact nI_ge (by omega) (by omega))) (fun _ => ?_)
        refine lv_aload_n hx hb dX0_roomFor_10 rfl (lv_at hl 0 rfl) ?_
        refine lv_iload_n hx hb dX0_roomFor_11 rfl (lv_at hl 1 rfl) ?_
        refine lv_iload_n hx hb dX0_roomFor_12 rfl (lv_at hl 3 rfl) ?_
        refine k_calli (rest := []) (q0 := 0) hC (c_X0_isAt l dC dI cI cZ h a qph qgr qne qap qle qfu qpc qgd qri qnw qtk qsv qwa qgi qlo qtu  i (nI k) hp) (cwV 2 hts gX0_roomFor_X0_isAt rfl rfl rfl hd_X0_isAt ⟨Nat.le_of_ble_eq_true rfl, Nat.le_of_ble_eq_true rfl⟩) hK hP hD hS hA rfl rfl rfl hl.1 (Nat.le_of_ble_eq_true rfl) dX0_roomFor_13 rfl ⟨Nat.zero_le _, Nat.zero_le _⟩ (fun H locs hP hD hS => ?_)
        refine lv_if_eq (tgt := 37) hx hb dX0_roomFor_16 (by decide) (fun c16 => ?_) (fun c16 => ?_)
        · refine lv_iinc (v := (nI (k + 1))) (lv' := [(3, .int (nI (k + 1))), (0, .ref h), (1, .int i), (2, .int ro)]) hx hb dX0_roomFor_37 hl (k := 3) rfl (nI_1 k) (by decide) rfl (fun ls hl => ?_)
          refine lv_goto (tgt := 5) hx hb dX0_roomFor_40 (by decide) ?_
          exact ih (k + 1) ro (by omega) (by rw [← hR, X0_roomFor_L5, if_pos c16])  H locs ls hP hD hS (lv_sub hl [1, 2, 3, 0] rfl)
        · refine lv_iload_n hx hb dX0_roomFor_19 rfl (lv_at hl 2 rfl) ?_
          refine lv_aload_n hx hb dX0_roomFor_20 rfl (lv_at hl 0 rfl) ?_
          refine va_get (D := (dC, dI)) (ci := 0) (v := .ref (a 5)) (C := RX0) (T := TX0) (N := 16) hx hb hts hin hown hK hP 0 rfl rfl 5 (by decide) hw0 (fun _ h9 => h9) rfl dX0_roomFor_21 ?_
          refine lv_iload_n hx hb dX0_roomFor_24 rfl (lv_at hl 3 rfl) ?_
          refine va_iald (f := qfu) hx hb hK hP 6 0 rfl rfl (vp_in_nI (by omega) (by decide)) dX0_roomFor_25 ?_
          refine lv_aload_n hx hb dX0_roomFor_26 rfl (lv_at hl 0 rfl) ?_
          refine va_get (D := (dC, dI)) (ci := 0) (v := .ref (a 14)) (C := RX0) (T := TX0) (N := 16) hx hb hts hin hown hK hP 0 rfl rfl 14 (by decide) hw1 (fun _ h9 => h9) rfl dX0_roomFor_27 ?_
          refine lv_iload_n hx hb dX0_roomFor_30 rfl (lv_at hl 3 rfl) ?_
          refine va_iald (f := qlo) hx hb hK hP 9 0 rfl rfl (vp_in_nI (by omega) (by decide)) dX0_roomFor_31 ?_
          refine lv_isub hx hb dX0_roomFor_32 ?_
          refine va_mmin hx hb (hml.trans hl.1.symm) hown hw2 hw3 hw4 hw5 (Nat.le_of_ble_eq_true rfl) (Nat.le_of_ble_eq_true rfl) (Nat.zero_le _) (Nat.zero_le _) dX0_roomFor_33 ?_
          refine lv_istore_n (lv' := [(2, .int (if ((qfu (nI k).toNatClampNeg) - (qlo (nI k).toNatClampNeg)) < ro then ((qfu (nI k).toNatClampNeg) - (qlo (nI k).toNatClampNeg)) else ro)), (0, .ref h), (1, .int i), (3, .int (nI k))]) hx hb dX0_roomFor_36 rfl hl (by decide) rfl (fun ls hl => ?_)
          refine lv_iinc (v := (nI (k + 1))) (lv' := [(3, .int (nI (k + 1))), (2, .int (if ((qfu (nI k).toNatClampNeg) - (qlo (nI k).toNatClampNeg)) < ro then ((qfu (nI k).toNatClampNeg) - (qlo (nI k).toNatClampNeg)) else ro)), (0, .ref h), (1, .int i)]) hx hb dX0_roomFor_37 hl (k := 3) rfl (nI_1 k) (by decide) rfl (fun ls hl => ?_)
          refine lv_goto (tgt := 5) hx hb dX0_roomFor_40 (by decide) ?_
          exact ih (k + 1) (if ((qfu (nI k).toNatClampNeg) - (qlo (nI k).toNatClampNeg)) < ro then ((qfu (nI k).toNatClampNeg) - (qlo (nI k).toNatClampNeg)) else ro) (by omega) (by rw [← hR, X0_roomFor_L5, if_neg c16])  H locs ls hP hD hS (lv_sub hl [2, 3, 1, 0] rfl)
    exact loop5 3 0 100 (by omega) rfl  H locs ls hP hD hS (lv_sub hl [2, 3, 1, 0] rfl)
  exact hW _ _ hP hD hS
end
section
def X0_startShares_L36  (n : Nat) : Nat → Nat → AR → AR
  | 0, k, vlo => vlo
  | j + 1, k, vlo => X0_startShares_L36 n  j (k + 1) (upd vlo (nI k).toNatClampNeg 0)
def X0_startShares_L2 (qph : AR) (qgr : AR) (qne : AR) (qap : AR) (qle : AR) (qnw : Int32) (n : Nat) : Nat → Nat → AR → AR → AR × AR
  | 0, k, vwa, vgi => (vwa, vgi)
  | j + 1, k, vwa, vgi => X0_startShares_L2 qph qgr qne qap qle qnw n  j (k + 1) (upd vwa (nI k).toNatClampNeg (X0_reachAt qph qgr qne qap qle qnw (nI k))) (upd vgi (nI k).toNatClampNeg 0)
def X0_startShares (qph : AR) (qgr : AR) (qne : AR) (qap : AR) (qle : AR) (qnw : Int32) (qwa : AR) (qgi : AR) (qlo : AR) (n : Nat) : AR × AR × AR := (((X0_startShares_L2 qph qgr qne qap qle qnw n  n 0 qwa qgi).1), ((X0_startShares_L2 qph qgr qne qap qle qnw n  n 0 qwa qgi).2), ((X0_startShares_L36 n  3 0 qlo)))
abbrev rmX0_startShares : Room := { frames := 3, cells := 0, slots := 0, locals := 56 }
theorem hd_X0_startShares : yX0_startShares.cls = RX0 ∧ yX0_startShares.cls ≠ "java/lang/invoke/MethodHandle" ∧ yX0_startShares.cls ≠ "java/lang/invoke/VarHandle" ∧ (parseMethodDescriptor yX0_startShares.desc).map (fun d => d.parameters.length) = some 0 := by decide +kernel
set_option maxHeartbeats 4000000 in
set_option maxRecDepth 100000 in
theorem c_X0_startShares (l : Launch) (dC : Nat → ClassId) (dI : Nat → Nat → Nat) (cI cZ : ClassId) (h : Nat) (a : Nat → Nat) (qph : AR) (qgr : AR) (qne : AR) (qap : AR) (qle : AR) (qfu : AR) (qpc : Int32) (qgd : Int32) (qri : Int32) (qnw : Int32) (qtk : Int32) (qsv : Int32) (qwa : AR) (qgi : AR) (qlo : AR) (qtu : AR) (n : Nat) (hpc : qpc = nI n) (hn : n ≤ 8) : Kv l yX0_startShares wsX0_startShares rmX0_startShares dC dI cI cZ [.ref h] (xW cI cZ h a qph qgr qne qap qle qfu qpc qgd qri qnw qtk qsv qwa qgi qlo qtu) (xW cI cZ h a qph qgr qne qap qle qfu qpc qgd qri qnw qtk qsv ((X0_startShares qph qgr qne qap qle qnw qwa qgi qlo n).1) ((X0_startShares qph qgr qne qap qle qnw qwa qgi qlo n).2.1) ((X0_startShares qph qgr qne qap qle qnw qwa qgi qlo n).2.2) qtu) := by
  refine k_enter_v (cc := cX0_startShares) (maxL := 2) (ret := none) (by decide) rfl (Nat.le_of_ble_eq_true rfl) ?_
  intro p e s m below meth c A ls hC hr hlocks hK hP hD hS hA hl
  generalize List.toArray _ = args at hC ⊢
  obtain ⟨hx, hb, hml, hown, hts⟩ := id hC
  have hret : ∀ (H : Heap) (locs : List Loc) (pc : Nat) (ls : Array Slot), va_S A s.heap H locs → va_P (dC, dI) vwCl (xW cI cZ h a qph qgr qne qap qle qfu qpc qgd qri qnw qtk qsv ((X0_startShares qph qgr qne qap qle qnw qwa qgi qlo n).1) ((X0_startShares qph qgr qne qap qle qnw qwa qgi qlo n).2.1) ((X0_startShares qph qgr qne qap qle qnw qwa qgi qlo n).2.2) qtu) H → va_D A (xW cI cZ h a qph qgr qne qap qle qfu qpc qgd qri qnw qtk qsv ((X0_startShares qph qgr qne qap qle qnw qwa qgi qlo n).1) ((X0_startShares qph qgr qne qap qle qnw qwa qgi qlo n).2.1) ((X0_startShares qph qgr qne qap qle qnw qwa qgi qlo n).2.2) qtu) → decode cX0_startShares pc = .ok (.return_, 1) → W p l e rmX0_startShares s m args below meth c H locs 0 0 (MQ below (va_Qv (fun (_ : Unit) => True) (kBeh dC dI A (xW cI cZ h a qph qgr qne qap qle qfu qpc qgd qri qnw qtk qsv ((X0_startShares qph qgr qne qap qle qnw qwa qgi qlo n).1) ((X0_startShares qph qgr qne qap qle qnw qwa qgi qlo n).2.1) ((X0_startShares qph qgr qne qap qle qnw qwa qgi qlo n).2.2) qtu)) A) args s 0 0 A) (F0 m pc ls []) := fun H locs pc ls hS hP hD d => k_vret hx hb hr hlocks hS hP hD d
  generalize MQ below _ _ _ _ _ _ = Q at hret ⊢
  have hin : ∀ w ∈ wsX00, w ∈ wsX0_startShares := by decide +kernel
  have hw0 := hts (.fieldLink RX0 34 "ChargePark" "loadOf" "[I") (by decide +kernel)
  have hw1 := hts (.fieldLink RX0 55 "ChargePark" "pointCount" "I") (by decide +kernel)
  have hw2 := hts (.fieldLink RX0 28 "ChargePark" "given" "[I") (by decide +kernel)
  have hw3 := hts (.fieldLink RX0 25 "ChargePark" "wanted" "[I") (by decide +kernel)
  have hl : lv_has ls 2 [(0, .ref h)] := hl
  have hP : va_P (dC, dI) vwCl (xW cI cZ h a qph qgr qne qap qle qfu qpc qgd qri qnw qtk qsv qwa qgi qlo qtu) s.heap := hP
  have hW : ∀ (H : Heap) (locs : List Loc), va_P (dC, dI) vwCl (xW cI cZ h a qph qgr qne qap qle qfu qpc qgd qri qnw qtk qsv qwa qgi qlo qtu) H → va_D A (xW cI cZ h a qph qgr qne qap qle qfu qpc qgd qri qnw qtk qsv qwa qgi qlo qtu) → va_S A s.heap H locs → W p l e rmX0_startShares s m args below meth c H locs 0 0 Q (F0 m 0 ls []) := by
    intro H locs hP hD hS
    refine lv_iconst (v := 0) hx hb dX0_startShares_0 (by decide) ?_
    refine lv_istore_n (lv' := [(1, .int 0), (0, .ref h)]) hx hb dX0_startShares_1 rfl hl (by decide) rfl (fun ls hl => ?_)
    have cont2 : ∀ (z1 : AR), z1 = (X0_startShares_L2 qph qgr qne qap qle qnw n  n 0 qwa qgi).1 → ∀ (z2 : AR), z2 = (X0_startShares_L2 qph qgr qne qap qle qnw n  n 0 qwa qgi).2 → ∀ (H : Heap) (locs : List Loc) (ls : Array Slot), va_P (dC, dI) vwCl (xW cI cZ h a qph qgr qne qap qle qfu qpc qgd qri qnw qtk qsv z1 z2 qlo qtu) H → va_D A (xW cI cZ h a qph qgr qne qap qle qfu qpc qgd qri qnw qtk qsv z1 z2 qlo qtu) → va_S A s.heap H locs → lv_has ls 2 [(0, .ref h)] → W p l e rmX0_startShares s m args below meth c H locs 0 0 Q (F0 m 34 ls []) := by
      intro z1 hz1 z2 hz2 H locs ls hP hD hS hl
      refine lv_iconst (v := 0) hx hb dX0_startShares_34 (by decide) ?_
      refine lv_istore_n (lv' := [(1, .int 0), (0, .ref h)]) hx hb dX0_startShares_35 rfl hl (by decide) rfl (fun ls hl => ?_)
      have cont36 : ∀ (z3 : AR), z3 = (X0_startShares_L36 n  3 0 qlo) → ∀ (H : Heap) (locs : List Loc) (ls : Array Slot), va_P (dC, dI) vwCl (xW cI cZ h a qph qgr qne qap qle qfu qpc qgd qri qnw qtk qsv z1 z2 z3 qtu) H → va_D A (xW cI cZ h a qph qgr qne qap qle qfu qpc qgd qri qnw qtk qsv z1 z2 z3 qtu) → va_S A s.heap H locs → lv_has ls 2 [(0, .ref h)] → W p l e rmX0_startShares s m args below meth c H locs 0 0 Q (F0 m 54 ls []) := by
        intro z3 hz3 H locs ls hP hD hS hl
        subst hz1 hz2 hz3
        have hP : va_P (dC, dI) vwCl (xW cI cZ h a qph qgr qne qap qle qfu qpc qgd qri qnw qtk qsv ((X0_startShares qph qgr qne qap qle qnw qwa qgi qlo n).1) ((X0_startShares qph qgr qne qap qle qnw qwa qgi qlo n).2.1) ((X0_startShares qph qgr qne qap qle qnw qwa qgi qlo n).2.2) qtu) H := by rw [X0_startShares]; exact hP
        have hD : va_D A (xW cI cZ h a qph qgr qne qap qle qfu qpc qgd qri qnw qtk qsv ((X0_startShares qph qgr qne qap qle qnw qwa qgi qlo n).1) ((X0_startShares qph qgr qne qap qle qnw qwa qgi qlo n).2.1) ((X0_startShares qph qgr qne qap qle qnw qwa qgi qlo n).2.2) qtu) := by rw [X0_startShares]; exact hD
        exact hret H locs 54 ls hS hP hD dX0_startShares_54
      have loop36 : ∀ (j k : Nat) (vlo : AR), k + j = 3 → X0_startShares_L36 n  j k vlo = (X0_startShares_L36 n  3 0 qlo) → ∀ (H : Heap) (locs : List Loc) (ls : Array Slot), va_P (dC, dI) vwCl (xW cI cZ h a qph qgr qne qap qle qfu qpc qgd qri qnw qtk qsv z1 z2 vlo qtu) H → va_D A (xW cI cZ h a qph qgr qne qap qle qfu qpc qgd qri qnw qtk qsv z1 z2 vlo qtu) → va_S A s.heap H locs → lv_has ls 2 [(0, .ref h), (1, .int (nI k))] → W p l e rmX0_startShares s m args below meth c H locs 0 0 Q (F0 m 36 ls []) := by
        intro j
        induction j with
        | zero =>
          intro k vlo hk hR  H locs ls hP hD hS hl
          refine lv_iload_n hx hb dX0_startShares_36 rfl (lv_at hl 1 rfl) ?_
          refine lv_iconst (v := 3) hx hb dX0_startShares_37 (by decide) ?_
          refine lv_icmp_ge (tgt := 54) hx hb dX0_startShares_38 (by decide) (fun _ => ?_) (fun c => absurd (by rw [nIl3]; exact nI_le (by omega) (by omega)) c)
          subst hz1 hz2
          exact cont36 vlo (by rw [← hR, X0_startShares_L36]) H locs ls hP hD hS (lv_sub hl [0] rfl)
        | succ j ih =>
          intro k vlo hk hR  H locs ls hP hD hS hl
          refine lv_iload_n hx hb dX0_startShares_36 rfl (lv_at hl 1 rfl) ?_
          refine lv_iconst (v := 3) hx hb dX0_startShares_37 (by decide) ?_
          refine lv_icmp_ge (tgt := 54) hx hb dX0_startShares_38 (by decide) (fun c => absurd c (by rw [nIl3]; exact nI_ge (by omega) (by omega))) (fun _ => ?_)
          refine lv_aload_n hx hb dX0_startShares_41 rfl (lv_at hl 0 rfl) ?_
          refine va_get (D := (dC, dI)) (ci := 0) (v := .ref (a 14)) (C := RX0) (T := TX0) (N := 16) hx hb hts hin hown hK hP 0 rfl rfl 14 (by decide) hw0 (fun _ h9 => h9) rfl dX0_startShares_42 ?_
          refine lv_iload_n hx hb dX0_startShares_45 rfl (lv_at hl 1 rfl) ?_
          refine lv_iconst (v := 0) hx hb dX0_startShares_46 (by decide) ?_
          refine va_iast (f := vlo) hx hb hK hP hD hS 9 0 rfl rfl (vp_in_nI (by omega) (by decide)) dX0_startShares_47 (fun H locs hP hD hS => ?_)
          obtain ⟨z4, hz4⟩ : ∃ z : AR, z = (upd vlo (nI k).toNatClampNeg 0) := ⟨_, rfl⟩
          rw [← hz4] at hP hD
          have hP : va_P (dC, dI) vwCl (xW cI cZ h a qph qgr qne qap qle qfu qpc qgd qri qnw qtk qsv z1 z2 z4 qtu) H := hP
          have hD : va_D A (xW cI cZ h a qph qgr qne qap qle qfu qpc qgd qri qnw qtk qsv z1 z2 z4 qtu) := hD
          refine lv_iinc (v := (nI (k + 1))) (lv' := [(1, .int (nI (k + 1))), (0, .ref h)]) hx hb dX0_startShares_48 hl (k := 1) rfl (nI_1 k) (by decide) rfl (fun ls hl => ?_)
          refine lv_goto (tgt := 36) hx hb dX0_startShares_51 (by decide) ?_
          subst hz1 hz2 hz4
          exact ih (k + 1) (upd vlo (nI k).toNatClampNeg 0) (by omega) (by rw [← hR, X0_startShares_L36])  H locs ls hP hD hS (lv_sub hl [1, 0] rfl)
      exact loop36 3 0 qlo (by omega) rfl  H locs ls hP hD hS (lv_sub hl [1, 0] rfl)
    have loop2 : ∀ (j k : Nat) (vwa : AR) (vgi : AR), k + j = n → X0_startShares_L2 qph qgr qne qap qle qnw n  j k vwa vgi = (X0_startShares_L2 qph qgr qne qap qle qnw n  n 0 qwa qgi) → ∀ (H : Heap) (locs : List Loc) (ls : Array Slot), va_P (dC, dI) vwCl (xW cI cZ h a qph qgr qne qap qle qfu qpc qgd qri qnw qtk qsv vwa vgi qlo qtu) H → va_D A (xW cI cZ h a qph qgr qne qap qle qfu qpc qgd qri qnw qtk qsv vwa vgi qlo qtu) → va_S A s.heap H locs → lv_has ls 2 [(0, .ref h), (1, .int (nI k))] → W p l e rmX0_startShares s m args below meth c H locs 0 0 Q (F0 m 2 ls []) := by
      intro j
      induction j with
      | zero =>
        intro k vwa vgi hk hR  H locs ls hP hD hS hl
        refine lv_iload_n hx hb dX0_startShares_2 rfl (lv_at hl 1 rfl) ?_
        refine lv_aload_n hx hb dX0_startShares_3 rfl (lv_at hl 0 rfl) ?_
        refine va_get (D := (dC, dI)) (ci := 0) (v := .int qpc) (C := RX0) (T := TX0) (N := 16) hx hb hts hin hown hK hP 0 rfl rfl 6 (by decide) hw1 (fun _ h9 => h9) rfl dX0_startShares_4 ?_
        refine lv_icmp_ge (tgt := 34) hx hb dX0_startShares_7 (by decide) (fun _ => ?_) (fun c => absurd (by rw [hpc]; exact nI_le (by omega) (by omega)) c)
        exact cont2 vwa (by rw [← hR, X0_startShares_L2]) vgi (by rw [← hR, X0_startShares_L2]) H locs ls hP hD hS (lv_sub hl [0] rfl)
      | succ j ih =>
        intro k vwa vgi hk hR  H locs ls hP hD hS hl
        refine lv_iload_n hx hb dX0_startShares_2 rfl (lv_at hl 1 rfl) ?_
        refine lv_aload_n hx hb dX0_startShares_3 rfl (lv_at hl 0 rfl) ?_
        refine va_get (D := (dC, dI)) (ci := 0) (v := .int qpc) (C := RX0) (T := TX0) (N := 16) hx hb hts hin hown hK hP 0 rfl rfl 6 (by decide) hw1 (fun _ h9 => h9) rfl dX0_startShares_4 ?_
        refine lv_icmp_ge (tgt := 34) hx hb dX0_startShares_7 (by decide) (fun c => absurd c (by rw [hpc]; exact nI_ge (by omega) (by omega))) (fun _ => ?_)
        refine lv_aload_n hx hb dX0_startShares_10 rfl (lv_at hl 0 rfl) ?_
        refine va_get (D := (dC, dI)) (ci := 0) (v := .ref (a 13)) (C := RX0) (T := TX0) (N := 16) hx hb hts hin hown hK hP 0 rfl rfl 13 (by decide) hw2 (fun _ h9 => h9) rfl dX0_startShares_11 ?_
        refine lv_iload_n hx hb dX0_startShares_14 rfl (lv_at hl 1 rfl) ?_
        refine lv_iconst (v := 0) hx hb dX0_startShares_15 (by decide) ?_
        refine va_iast (f := vgi) hx hb hK hP hD hS 8 0 rfl rfl (vp_in_nI (by omega) (by decide)) dX0_startShares_16 (fun H locs hP hD hS => ?_)
        obtain ⟨z5, hz5⟩ : ∃ z : AR, z = (upd vgi (nI k).toNatClampNeg 0) := ⟨_, rfl⟩
        rw [← hz5] at hP hD
        have hP : va_P (dC, dI) vwCl (xW cI cZ h a qph qgr qne qap qle qfu qpc qgd qri qnw qtk qsv vwa z5 qlo qtu) H := hP
        have hD : va_D A (xW cI cZ h a qph qgr qne qap qle qfu qpc qgd qri qnw qtk qsv vwa z5 qlo qtu) := hD
        refine lv_aload_n hx hb dX0_startShares_17 rfl (lv_at hl 0 rfl) ?_
        refine va_get (D := (dC, dI)) (ci := 0) (v := .ref (a 12)) (C := RX0) (T := TX0) (N := 16) hx hb hts hin hown hK hP 0 rfl rfl 12 (by decide) hw3 (fun _ h9 => h9) rfl dX0_startShares_18 ?_
        refine lv_iload_n hx hb dX0_startShares_21 rfl (lv_at hl 1 rfl) ?_
        refine lv_aload_n hx hb dX0_startShares_22 rfl (lv_at hl 0 rfl) ?_
        refine lv_iload_n hx hb dX0_startShares_23 rfl (lv_at hl 1 rfl) ?_
        refine k_calli (rest := [.int (nI k), .ref (a 12)]) (q0 := 0) hC (c_X0_reachAt l dC dI cI cZ h a qph qgr qne qap qle qfu qpc qgd qri qnw qtk qsv vwa z5 qlo qtu  (nI k) (vp_in_nI (by omega) (by decide))) (cwV 1 hts gX0_startShares_X0_reachAt rfl rfl rfl hd_X0_reachAt ⟨Nat.le_of_ble_eq_true rfl, Nat.le_of_ble_eq_true rfl⟩) hK hP hD hS hA rfl rfl rfl hl.1 (Nat.le_of_ble_eq_true rfl) dX0_startShares_24 rfl ⟨Nat.zero_le _, Nat.zero_le _⟩ (fun H locs hP hD hS => ?_)
        refine va_iast (f := vwa) hx hb hK hP hD hS 7 0 rfl rfl (vp_in_nI (by omega) (by decide)) dX0_startShares_27 (fun H locs hP hD hS => ?_)
        obtain ⟨z6, hz6⟩ : ∃ z : AR, z = (upd vwa (nI k).toNatClampNeg (X0_reachAt qph qgr qne qap qle qnw (nI k))) := ⟨_, rfl⟩
        rw [← hz6] at hP hD
        have hP : va_P (dC, dI) vwCl (xW cI cZ h a qph qgr qne qap qle qfu qpc qgd qri qnw qtk qsv z6 z5 qlo qtu) H := hP
        have hD : va_D A (xW cI cZ h a qph qgr qne qap qle qfu qpc qgd qri qnw qtk qsv z6 z5 qlo qtu) := hD
        refine lv_iinc (v := (nI (k + 1))) (lv' := [(1, .int (nI (k + 1))), (0, .ref h)]) hx hb dX0_startShares_28 hl (k := 1) rfl (nI_1 k) (by decide) rfl (fun ls hl => ?_)
        refine lv_goto (tgt := 2) hx hb dX0_startShares_31 (by decide) ?_
        subst hz5 hz6
        exact ih (k + 1) (upd vwa (nI k).toNatClampNeg (X0_reachAt qph qgr qne qap qle qnw (nI k))) (upd vgi (nI k).toNatClampNeg 0) (by omega) (by rw [← hR, X0_startShares_L2])  H locs ls hP hD hS (lv_sub hl [1, 0] rfl)
    exact loop2 n 0 qwa qgi (by omega) rfl  H locs ls hP hD hS (lv_sub hl [1, 0] rfl)
  exact hW _ _ hP hD hS
def X0_takeWhatIsGiven_L2 (qph : AR) (qgi : AR) (n : Nat) : Nat → Nat → AR → Int32 → AR × Int32
  | 0, k, vne, vtk => (vne, vtk)
  | j + 1, k, vne, vtk => (if (qgi (nI k).toNatClampNeg) ≤ 0 then X0_takeWhatIsGiven_L2 qph qgi n  j (k + 1) vne vtk else X0_takeWhatIsGiven_L2 qph qgi n  j (k + 1) (upd vne (nI k).toNatClampNeg ((vne (nI k).toNatClampNeg) - (if (vne (nI k).toNatClampNeg) < ((qgi (nI k).toNatClampNeg) * (X0_unitsPerAmpere qph (nI k))) then (vne (nI k).toNatClampNeg) else ((qgi (nI k).toNatClampNeg) * (X0_unitsPerAmpere qph (nI k)))))) (vtk + (if (vne (nI k).toNatClampNeg) < ((qgi (nI k).toNatClampNeg) * (X0_unitsPerAmpere qph (nI k))) then (vne (nI k).toNatClampNeg) else ((qgi (nI k).toNatClampNeg) * (X0_unitsPerAmpere qph (nI k))))))
def X0_takeWhatIsGiven (qph : AR) (qne : AR) (qtk : Int32) (qgi : AR) (n : Nat) : AR × Int32 := (((X0_takeWhatIsGiven_L2 qph qgi n  n 0 qne qtk).1), ((X0_takeWhatIsGiven_L2 qph qgi n  n 0 qne qtk).2))
abbrev rmX0_takeWhatIsGiven : Room := { frames := 1, cells := 0, slots := 0, locals := 21 }
theorem hd_X0_takeWhatIsGiven : yX0_takeWhatIsGiven.cls = RX0 ∧ yX0_takeWhatIsGiven.cls ≠ "java/lang/invoke/MethodHandle" ∧ yX0_takeWhatIsGiven.cls ≠ "java/lang/invoke/VarHandle" ∧ (parseMethodDescriptor yX0_takeWhatIsGiven.desc).map (fun d => d.parameters.length) = some 0 := by decide +kernel
set_option maxHeartbeats 4000000 in
set_option maxRecDepth 100000 in
theorem c_X0_takeWhatIsGiven (l : Launch) (dC : Nat → ClassId) (dI : Nat → Nat → Nat) (cI cZ : ClassId) (h : Nat) (a : Nat → Nat) (qph : AR) (qgr : AR) (qne : AR) (qap : AR) (qle : AR) (qfu : AR) (qpc : Int32) (qgd : Int32) (qri : Int32) (qnw : Int32) (qtk : Int32) (qsv : Int32) (qwa : AR) (qgi : AR) (qlo : AR) (qtu : AR) (n : Nat) (hpc : qpc = nI n) (hn : n ≤ 8) : Kv l yX0_takeWhatIsGiven wsX0_takeWhatIsGiven rmX0_takeWhatIsGiven dC dI cI cZ [.ref h] (xW cI cZ h a qph qgr qne qap qle qfu qpc qgd qri qnw qtk qsv qwa qgi qlo qtu) (xW cI cZ h a qph qgr ((X0_takeWhatIsGiven qph qne qtk qgi n).1) qap qle qfu qpc qgd qri qnw ((X0_takeWhatIsGiven qph qne qtk qgi n).2) qsv qwa qgi qlo qtu) := by
  refine k_enter_v (cc := cX0_takeWhatIsGiven) (maxL := 3) (ret := none) (by decide) rfl (Nat.le_of_ble_eq_true rfl) ?_
  intro p e s m below meth c A ls hC hr hlocks hK hP hD hS hA hl
  generalize List.toArray _ = args at hC ⊢
  obtain ⟨hx, hb, hml, hown, hts⟩ := id hC
  have hret : ∀ (H : Heap) (locs : List Loc) (pc : Nat) (ls : Array Slot), va_S A s.heap H locs → va_P (dC, dI) vwCl (xW cI cZ h a qph qgr ((X0_takeWhatIsGiven qph qne qtk qgi n).1) qap qle qfu qpc qgd qri qnw ((X0_takeWhatIsGiven qph qne qtk qgi n).2) qsv qwa qgi qlo qtu) H → va_D A (xW cI cZ h a qph qgr ((X0_takeWhatIsGiven qph qne qtk qgi n).1) qap qle qfu qpc qgd qri qnw ((X0_takeWhatIsGiven qph qne qtk qgi n).2) qsv qwa qgi qlo qtu) → decode cX0_takeWhatIsGiven pc = .ok (.return_, 1) → W p l e rmX0_takeWhatIsGiven s m args below meth c H locs 0 0 (MQ below (va_Qv (fun (_ : Unit) => True) (kBeh dC dI A (xW cI cZ h a qph qgr ((X0_takeWhatIsGiven qph qne qtk qgi n).1) qap qle qfu qpc qgd qri qnw ((X0_takeWhatIsGiven qph qne qtk qgi n).2) qsv qwa qgi qlo qtu)) A) args s 0 0 A) (F0 m pc ls []) := fun H locs pc ls hS hP hD d => k_vret hx hb hr hlocks hS hP hD d
  generalize MQ below _ _ _ _ _ _ = Q at hret ⊢
  have hin : ∀ w ∈ wsX00, w ∈ wsX0_takeWhatIsGiven := by decide +kernel
  have hw0 := hts (.fieldLink RX0 55 "ChargePark" "pointCount" "I") (by decide +kernel)
  have hw1 := hts (.fieldLink RX0 28 "ChargePark" "given" "[I") (by decide +kernel)
  have hw2 := hts (.fieldLink RX0 16 "ChargePark" "needOf" "[I") (by decide +kernel)
  have hw3 := hts (.methodLink RX0 132 Lib.Math.min.name) (by decide +kernel)
  have hw4 := hts (.static Lib.Math.min.name) (by decide +kernel)
  have hw5 := hts (.initialized "java/lang/Math") (by decide +kernel)
  have hw6 := hts (.code Lib.Math.min.name Lib.Math.min.code 2 (some .int)) (by decide +kernel)
  have hw7 := hts (.fieldLink RX0 96 "ChargePark" "takenUnits" "I") (by decide +kernel)
  have hl : lv_has ls 3 [(0, .ref h)] := hl
  have hP : va_P (dC, dI) vwCl (xW cI cZ h a qph qgr qne qap qle qfu qpc qgd qri qnw qtk qsv qwa qgi qlo qtu) s.heap := hP
  have hW : ∀ (H : Heap) (locs : List Loc), va_P (dC, dI) vwCl (xW cI cZ h a qph qgr qne qap qle qfu qpc qgd qri qnw qtk qsv qwa qgi qlo qtu) H → va_D A (xW cI cZ h a qph qgr qne qap qle qfu qpc qgd qri qnw qtk qsv qwa qgi qlo qtu) → va_S A s.heap H locs → W p l e rmX0_takeWhatIsGiven s m args below meth c H locs 0 0 Q (F0 m 0 ls []) := by
    intro H locs hP hD hS
    refine lv_iconst (v := 0) hx hb dX0_takeWhatIsGiven_0 (by decide) ?_
    refine lv_istore_n (lv' := [(1, .int 0), (0, .ref h)]) hx hb dX0_takeWhatIsGiven_1 rfl hl (by decide) rfl (fun ls hl => ?_)
    have cont2 : ∀ (z1 : AR), z1 = (X0_takeWhatIsGiven_L2 qph qgi n  n 0 qne qtk).1 → ∀ (z2 : Int32), z2 = (X0_takeWhatIsGiven_L2 qph qgi n  n 0 qne qtk).2 → ∀ (H : Heap) (locs : List Loc) (ls : Array Slot), va_P (dC, dI) vwCl (xW cI cZ h a qph qgr z1 qap qle qfu qpc qgd qri qnw z2 qsv qwa qgi qlo qtu) H → va_D A (xW cI cZ h a qph qgr z1 qap qle qfu qpc qgd qri qnw z2 qsv qwa qgi qlo qtu) → va_S A s.heap H locs → lv_has ls 3 [(0, .ref h)] → W p l e rmX0_takeWhatIsGiven s m args below meth c H locs 0 0 Q (F0 m 67 ls []) := by
      intro z1 hz1 z2 hz2 H locs ls hP hD hS hl
      subst hz1 hz2
      have hP : va_P (dC, dI) vwCl (xW cI cZ h a qph qgr ((X0_takeWhatIsGiven qph qne qtk qgi n).1) qap qle qfu qpc qgd qri qnw ((X0_takeWhatIsGiven qph qne qtk qgi n).2) qsv qwa qgi qlo qtu) H := by rw [X0_takeWhatIsGiven]; exact hP
      have hD : va_D A (xW cI cZ h a qph qgr ((X0_takeWhatIsGiven qph qne qtk qgi n).1) qap qle qfu qpc qgd qri qnw ((X0_takeWhatIsGiven qph qne qtk qgi n).2) qsv qwa qgi qlo qtu) := by rw [X0_takeWhatIsGiven]; exact hD
      exact hret H locs 67 ls hS hP hD dX0_takeWhatIsGiven_67
    have loop2 : ∀ (j k : Nat) (vne : AR) (vtk : Int32), k + j = n → X0_takeWhatIsGiven_L2 qph qgi n  j k vne vtk = (X0_takeWhatIsGiven_L2 qph qgi n  n 0 qne qtk) → ∀ (H : Heap) (locs : List Loc) (ls : Array Slot), va_P (dC, dI) vwCl (xW cI cZ h a qph qgr vne qap qle qfu qpc qgd qri qnw vtk qsv qwa qgi qlo qtu) H → va_D A (xW cI cZ h a qph qgr vne qap qle qfu qpc qgd qri qnw vtk qsv qwa qgi qlo qtu) → va_S A s.heap H locs → lv_has ls 3 [(0, .ref h), (1, .int (nI k))] → W p l e rmX0_takeWhatIsGiven s m args below meth c H locs 0 0 Q (F0 m 2 ls []) := by
      intro j
      induction j with
      | zero =>
        intro k vne vtk hk hR  H locs ls hP hD hS hl
        refine lv_iload_n hx hb dX0_takeWhatIsGiven_2 rfl (lv_at hl 1 rfl) ?_
        refine lv_aload_n hx hb dX0_takeWhatIsGiven_3 rfl (lv_at hl 0 rfl) ?_
        refine va_get (D := (dC, dI)) (ci := 0) (v := .int qpc) (C := RX0) (T := TX0) (N := 16) hx hb hts hin hown hK hP 0 rfl rfl 6 (by decide) hw0 (fun _ h9 => h9) rfl dX0_takeWhatIsGiven_4 ?_
        refine lv_icmp_ge (tgt := 67) hx hb dX0_takeWhatIsGiven_7 (by decide) (fun _ => ?_) (fun c => absurd (by rw [hpc]; exact nI_le (by omega) (by omega)) c)
        exact cont2 vne (by rw [← hR, X0_takeWhatIsGiven_L2]) vtk (by rw [← hR, X0_takeWhatIsGiven_L2]) H locs ls hP hD hS (lv_sub hl [0] rfl)
      | succ j ih =>
        intro k vne vtk hk hR  H locs ls hP hD hS hl
        refine lv_iload_n hx hb dX0_takeWhatIsGiven_2 rfl (lv_at hl 1 rfl) ?_
        refine lv_aload_n hx hb dX0_takeWhatIsGiven_3 rfl (lv_at hl 0 rfl) ?_
        refine va_get (D := (dC, dI)) (ci := 0) (v := .int qpc) (C := RX0) (T := TX0) (N := 16) hx hb hts hin hown hK hP 0 rfl rfl 6 (by decide) hw0 (fun _ h9 => h9) rfl dX0_takeWhatIsGiven_4 ?_
        refine lv_icmp_ge (tgt := 67) hx hb dX0_takeWhatIsGiven_7 (by decide) (fun c => absurd c (by rw [hpc]; exact nI_ge (by omega) (by omega))) (fun _ => ?_)
        refine lv_aload_n hx hb dX0_takeWhatIsGiven_10 rfl (lv_at hl 0 rfl) ?_
        refine va_get (D := (dC, dI)) (ci := 0) (v := .ref (a 13)) (C := RX0) (T := TX0) (N := 16) hx hb hts hin hown hK hP 0 rfl rfl 13 (by decide) hw1 (fun _ h9 => h9) rfl dX0_takeWhatIsGiven_11 ?_
        refine lv_iload_n hx hb dX0_takeWhatIsGiven_14 rfl (lv_at hl 1 rfl) ?_
        refine va_iald (f := qgi) hx hb hK hP 8 0 rfl rfl (vp_in_nI (by omega) (by decide)) dX0_takeWhatIsGiven_15 ?_
        refine lv_if_le (tgt := 61) hx hb dX0_takeWhatIsGiven_16 (by decide) (fun c16 => ?_) (fun c16 => ?_)
        · refine lv_iinc (v := (nI (k + 1))) (lv' := [(1, .int (nI (k + 1))), (0, .ref h)]) hx hb dX0_takeWhatIsGiven_61 hl (k := 1) rfl (nI_1 k) (by decide) rfl (fun ls hl => ?_)
          refine lv_goto (tgt := 2) hx hb dX0_takeWhatIsGiven_64 (by decide) ?_
          exact ih (k + 1) vne vtk (by omega) (by rw [← hR, X0_takeWhatIsGiven_L2, if_pos c16])  H locs ls hP hD hS (lv_sub hl [1, 0] rfl)
        · refine lv_aload_n hx hb dX0_takeWhatIsGiven_19 rfl (lv_at hl 0 rfl) ?_
          refine va_get (D := (dC, dI)) (ci := 0) (v := .ref (a 13)) (C := RX0) (T := TX0) (N := 16) hx hb hts hin hown hK hP 0 rfl rfl 13 (by decide) hw1 (fun _ h9 => h9) rfl dX0_takeWhatIsGiven_20 ?_
          refine lv_iload_n hx hb dX0_takeWhatIsGiven_23 rfl (lv_at hl 1 rfl) ?_
          refine va_iald (f := qgi) hx hb hK hP 8 0 rfl rfl (vp_in_nI (by omega) (by decide)) dX0_takeWhatIsGiven_24 ?_
          refine lv_aload_n hx hb dX0_takeWhatIsGiven_25 rfl (lv_at hl 0 rfl) ?_
          refine lv_iload_n hx hb dX0_takeWhatIsGiven_26 rfl (lv_at hl 1 rfl) ?_
          refine k_calli (rest := [.int (qgi (nI k).toNatClampNeg)]) (q0 := 0) hC (c_X0_unitsPerAmpere l dC dI cI cZ h a qph qgr vne qap qle qfu qpc qgd qri qnw vtk qsv qwa qgi qlo qtu  (nI k) (vp_in_nI (by omega) (by decide))) (cwV 1 hts gX0_takeWhatIsGiven_X0_unitsPerAmpere rfl rfl rfl hd_X0_unitsPerAmpere ⟨Nat.le_of_ble_eq_true rfl, Nat.le_of_ble_eq_true rfl⟩) hK hP hD hS hA rfl rfl rfl hl.1 (Nat.le_of_ble_eq_true rfl) dX0_takeWhatIsGiven_27 rfl ⟨Nat.zero_le _, Nat.zero_le _⟩ (fun H locs hP hD hS => ?_)
          refine lv_imul hx hb dX0_takeWhatIsGiven_30 ?_
          refine lv_aload_n hx hb dX0_takeWhatIsGiven_31 rfl (lv_at hl 0 rfl) ?_
          refine va_get (D := (dC, dI)) (ci := 0) (v := .ref (a 2)) (C := RX0) (T := TX0) (N := 16) hx hb hts hin hown hK hP 0 rfl rfl 2 (by decide) hw2 (fun _ h9 => h9) rfl dX0_takeWhatIsGiven_32 ?_
          refine lv_iload_n hx hb dX0_takeWhatIsGiven_35 rfl (lv_at hl 1 rfl) ?_
          refine va_iald (f := vne) hx hb hK hP 3 0 rfl rfl (vp_in_nI (by omega) (by decide)) dX0_takeWhatIsGiven_36 ?_
          refine va_mmin hx hb (hml.trans hl.1.symm) hown hw3 hw4 hw5 hw6 (Nat.le_of_ble_eq_true rfl) (Nat.le_of_ble_eq_true rfl) (Nat.zero_le _) (Nat.zero_le _) dX0_takeWhatIsGiven_37 ?_
          refine lv_istore_n (lv' := [(2, .int (if (vne (nI k).toNatClampNeg) < ((qgi (nI k).toNatClampNeg) * (X0_unitsPerAmpere qph (nI k))) then (vne (nI k).toNatClampNeg) else ((qgi (nI k).toNatClampNeg) * (X0_unitsPerAmpere qph (nI k))))), (0, .ref h), (1, .int (nI k))]) hx hb dX0_takeWhatIsGiven_40 rfl hl (by decide) rfl (fun ls hl => ?_)
          refine lv_aload_n hx hb dX0_takeWhatIsGiven_41 rfl (lv_at hl 1 rfl) ?_
          refine va_get (D := (dC, dI)) (ci := 0) (v := .ref (a 2)) (C := RX0) (T := TX0) (N := 16) hx hb hts hin hown hK hP 0 rfl rfl 2 (by decide) hw2 (fun _ h9 => h9) rfl dX0_takeWhatIsGiven_42 ?_
          refine lv_iload_n hx hb dX0_takeWhatIsGiven_45 rfl (lv_at hl 2 rfl) ?_
          refine lv_dup2_11 hx hb dX0_takeWhatIsGiven_46 rfl rfl ?_
          refine va_iald (f := vne) hx hb hK hP 3 0 rfl rfl (vp_in_nI (by omega) (by decide)) dX0_takeWhatIsGiven_47 ?_
          refine lv_iload_n hx hb dX0_takeWhatIsGiven_48 rfl (lv_at hl 0 rfl) ?_
          refine lv_isub hx hb dX0_takeWhatIsGiven_49 ?_
          refine va_iast (f := vne) hx hb hK hP hD hS 3 0 rfl rfl (vp_in_nI (by omega) (by decide)) dX0_takeWhatIsGiven_50 (fun H locs hP hD hS => ?_)
          obtain ⟨z3, hz3⟩ : ∃ z : AR, z = (upd vne (nI k).toNatClampNeg ((vne (nI k).toNatClampNeg) - (if (vne (nI k).toNatClampNeg) < ((qgi (nI k).toNatClampNeg) * (X0_unitsPerAmpere qph (nI k))) then (vne (nI k).toNatClampNeg) else ((qgi (nI k).toNatClampNeg) * (X0_unitsPerAmpere qph (nI k)))))) := ⟨_, rfl⟩
          rw [← hz3] at hP hD
          have hP : va_P (dC, dI) vwCl (xW cI cZ h a qph qgr z3 qap qle qfu qpc qgd qri qnw vtk qsv qwa qgi qlo qtu) H := hP
          have hD : va_D A (xW cI cZ h a qph qgr z3 qap qle qfu qpc qgd qri qnw vtk qsv qwa qgi qlo qtu) := hD
          refine lv_aload_n hx hb dX0_takeWhatIsGiven_51 rfl (lv_at hl 1 rfl) ?_
          refine lv_dup hx hb dX0_takeWhatIsGiven_52 rfl ?_
          refine va_get (D := (dC, dI)) (ci := 0) (v := .int vtk) (C := RX0) (T := TX0) (N := 16) hx hb hts hin hown hK hP 0 rfl rfl 10 (by decide) hw7 (fun _ h9 => h9) rfl dX0_takeWhatIsGiven_53 ?_
          refine lv_iload_n hx hb dX0_takeWhatIsGiven_56 rfl (lv_at hl 0 rfl) ?_
          refine lv_iadd hx hb dX0_takeWhatIsGiven_57 ?_
          refine va_put (D := (dC, dI)) (ci := 0) (v := .int (vtk + (if (vne (nI k).toNatClampNeg) < ((qgi (nI k).toNatClampNeg) * (X0_unitsPerAmpere qph (nI k))) then (vne (nI k).toNatClampNeg) else ((qgi (nI k).toNatClampNeg) * (X0_unitsPerAmpere qph (nI k)))))) (ty := .int) (C := RX0) (T := TX0) (N := 16) hx hb hts hin tyX0 tyX0_ok nmX0 hown hK hP hD hS 0 rfl rfl 10 (by decide) hw7 (fun _ h9 => h9) rfl xfd10 rfl rfl (Nat.le_of_ble_eq_true rfl) dX0_takeWhatIsGiven_58 (fun H locs hP hD hS => ?_)
          obtain ⟨z4, hz4⟩ : ∃ z : Int32, z = (vtk + (if (vne (nI k).toNatClampNeg) < ((qgi (nI k).toNatClampNeg) * (X0_unitsPerAmpere qph (nI k))) then (vne (nI k).toNatClampNeg) else ((qgi (nI k).toNatClampNeg) * (X0_unitsPerAmpere qph (nI k))))) := ⟨_, rfl⟩
          rw [← hz4] at hP hD
          have hP : va_P (dC, dI) vwCl (xW cI cZ h a qph qgr z3 qap qle qfu qpc qgd qri qnw z4 qsv qwa qgi qlo qtu) H := hP
          have hD : va_D A (xW cI cZ h a qph qgr z3 qap qle qfu qpc qgd qri qnw z4 qsv qwa qgi qlo qtu) := hD
          refine lv_iinc (v := (nI (k + 1))) (lv' := [(1, .int (nI (k + 1))), (2, .int (if (vne (nI k).toNatClampNeg) < ((qgi (nI k).toNatClampNeg) * (X0_unitsPerAmpere qph (nI k))) then (vne (nI k).toNatClampNeg) else ((qgi (nI k).toNatClampNeg) * (X0_unitsPerAmpere qph (nI k))))), (0, .ref h)]) hx hb dX0_takeWhatIsGiven_61 hl (k := 2) rfl (nI_1 k) (by decide) rfl (fun ls hl => ?_)
          refine lv_goto (tgt := 2) hx hb dX0_takeWhatIsGiven_64 (by decide) ?_
          subst hz3 hz4
          exact ih (k + 1) (upd vne (nI k).toNatClampNeg ((vne (nI k).toNatClampNeg) - (if (vne (nI k).toNatClampNeg) < ((qgi (nI k).toNatClampNeg) * (X0_unitsPerAmpere qph (nI k))) then (vne (nI k).toNatClampNeg) else ((qgi (nI k).toNatClampNeg) * (X0_unitsPerAmpere qph (nI k)))))) (vtk + (if (vne (nI k).toNatClampNeg) < ((qgi (nI k).toNatClampNeg) * (X0_unitsPerAmpere qph (nI k))) then (vne (nI k).toNatClampNeg) else ((qgi (nI k).toNatClampNeg) * (X0_unitsPerAmpere qph (nI k))))) (by omega) (by rw [← hR, X0_takeWhatIsGiven_L2, if_neg c16])  H locs ls hP hD hS (lv_sub hl [2, 0] rfl)
    exact loop2 n 0 qne qtk (by omega) rfl  H locs ls hP hD hS (lv_sub hl [1, 0] rfl)
  exact hW _ _ hP hD hS
def X0_putIntoTurns_L9 (qph : AR) (qgr : AR) (qne : AR) (qap : AR) (qle : AR) (qnw : Int32) (i : Int32) (w : Nat) : Nat → AR → Nat × AR
  | 0, vtu => (0, vtu)
  | j + 1, vtu => (if (X0_laxityAt qph qgr qne qap qle qnw (vtu ((nI (j + 1)) - 1).toNatClampNeg)) ≤ (X0_laxityAt qph qgr qne qap qle qnw i) then ((j + 1), vtu) else X0_putIntoTurns_L9 qph qgr qne qap qle qnw i w  j (upd vtu (nI (j + 1)).toNatClampNeg (vtu ((nI (j + 1)) - 1).toNatClampNeg)))
def X0_putIntoTurns (qph : AR) (qgr : AR) (qne : AR) (qap : AR) (qle : AR) (qnw : Int32) (qtu : AR) (i : Int32) (w : Nat) : AR := (upd ((X0_putIntoTurns_L9 qph qgr qne qap qle qnw i w  w qtu).2) (nI ((X0_putIntoTurns_L9 qph qgr qne qap qle qnw i w  w qtu).1)).toNatClampNeg i)
abbrev rmX0_putIntoTurns : Room := { frames := 3, cells := 0, slots := 0, locals := 56 }
theorem hd_X0_putIntoTurns : yX0_putIntoTurns.cls = RX0 ∧ yX0_putIntoTurns.cls ≠ "java/lang/invoke/MethodHandle" ∧ yX0_putIntoTurns.cls ≠ "java/lang/invoke/VarHandle" ∧ (parseMethodDescriptor yX0_putIntoTurns.desc).map (fun d => d.parameters.length) = some 2 := by decide +kernel
theorem X0_putIntoTurns_le (qph : AR) (qgr : AR) (qne : AR) (qap : AR) (qle : AR) (qnw : Int32) (i : Int32) (w : Nat) : ∀ (j : Nat) (tu : AR), (X0_putIntoTurns_L9 qph qgr qne qap qle qnw i w j tu).1 ≤ j := by
  intro j
  induction j with
  | zero => intro tu; rw [X0_putIntoTurns_L9]; exact Nat.le_refl 0
  | succ j ih =>
    intro tu
    rw [X0_putIntoTurns_L9]
    split
    · exact Nat.le_refl _
    · exact Nat.le_trans (ih _) (Nat.le_succ j)
theorem X0_putIntoTurns_inL (qph : AR) (qgr : AR) (qne : AR) (qap : AR) (qle : AR) (qnw : Int32) (i : Int32) (w : Nat) (hw : w < 8) : ∀ (j : Nat) (tu : AR), j ≤ w → (∀ k, k < w + 1 → k ≠ j → vp_in (tu k) 8) → ∀ k, k < w + 1 → k ≠ (X0_putIntoTurns_L9 qph qgr qne qap qle qnw i w j tu).1 → vp_in ((X0_putIntoTurns_L9 qph qgr qne qap qle qnw i w j tu).2 k) 8 := by
  intro j
  induction j with
  | zero =>
    intro tu hj ht
    rw [X0_putIntoTurns_L9]
    exact ht
  | succ j ih =>
    intro tu hj ht
    rw [X0_putIntoTurns_L9]
    split
    · exact ht
    · refine ih _ (by omega) ?_
      intro k hk hne
      have e1 : (nI (j + 1)).toNatClampNeg = j + 1 := nI_clamp (by omega)
      have e2 : (nI (j + 1) - 1).toNatClampNeg = j := by rw [nI_pred]; exact nI_clamp (by omega)
      rw [e1, e2]
      unfold upd
      split
      · exact ht j (by omega) (by omega)
      · exact ht k hk (by assumption)
theorem X0_putIntoTurns_in (qph : AR) (qgr : AR) (qne : AR) (qap : AR) (qle : AR) (qnw : Int32) (qtu : AR) (i : Int32) (w : Nat) (hp : vp_in i 8) (hw : w < 8) (ht : ∀ k, k < w → vp_in (qtu k) 8) : ∀ k, k < w + 1 → vp_in (X0_putIntoTurns qph qgr qne qap qle qnw qtu i w k) 8 := by
  intro k hk
  have h1 := X0_putIntoTurns_inL qph qgr qne qap qle qnw i w hw w qtu (Nat.le_refl w) (fun q h1 h2 => ht q (by omega)) k hk
  have h2 := X0_putIntoTurns_le qph qgr qne qap qle qnw i w w qtu
  rw [X0_putIntoTurns]
  have e : (nI (X0_putIntoTurns_L9 qph qgr qne qap qle qnw i w w qtu).1).toNatClampNeg = (X0_putIntoTurns_L9 qph qgr qne qap qle qnw i w w qtu).1 := nI_clamp (by omega)
  rw [e]
  unfold upd
  split
  · exact hp
  · exact h1 (by assumption)
set_option maxHeartbeats 4000000 in
set_option maxRecDepth 100000 in
theorem c_X0_putIntoTurns (l : Launch) (dC : Nat → ClassId) (dI : Nat → Nat → Nat) (cI cZ : ClassId) (h : Nat) (a : Nat → Nat) (qph : AR) (qgr : AR) (qne : AR) (qap : AR) (qle : AR) (qfu : AR) (qpc : Int32) (qgd : Int32) (qri : Int32) (qnw : Int32) (qtk : Int32) (qsv : Int32) (qwa : AR) (qgi : AR) (qlo : AR) (qtu : AR) (i : Int32) (w : Nat) (hp : vp_in i 8) (hw : w < 8) (ht : ∀ k, k < w → vp_in (qtu k) 8) : Kv l yX0_putIntoTurns wsX0_putIntoTurns rmX0_putIntoTurns dC dI cI cZ [.ref h, .int i, .int (nI w)] (xW cI cZ h a qph qgr qne qap qle qfu qpc qgd qri qnw qtk qsv qwa qgi qlo qtu) (xW cI cZ h a qph qgr qne qap qle qfu qpc qgd qri qnw qtk qsv qwa qgi qlo ((X0_putIntoTurns qph qgr qne qap qle qnw qtu i w))) := by
  refine k_enter_v (cc := cX0_putIntoTurns) (maxL := 5) (ret := none) (by decide) rfl (Nat.le_of_ble_eq_true rfl) ?_
  intro p e s m below meth c A ls hC hr hlocks hK hP hD hS hA hl
  generalize List.toArray _ = args at hC ⊢
  obtain ⟨hx, hb, hml, hown, hts⟩ := id hC
  have hret : ∀ (H : Heap) (locs : List Loc) (pc : Nat) (ls : Array Slot), va_S A s.heap H locs → va_P (dC, dI) vwCl (xW cI cZ h a qph qgr qne qap qle qfu qpc qgd qri qnw qtk qsv qwa qgi qlo ((X0_putIntoTurns qph qgr qne qap qle qnw qtu i w))) H → va_D A (xW cI cZ h a qph qgr qne qap qle qfu qpc qgd qri qnw qtk qsv qwa qgi qlo ((X0_putIntoTurns qph qgr qne qap qle qnw qtu i w))) → decode cX0_putIntoTurns pc = .ok (.return_, 1) → W p l e rmX0_putIntoTurns s m args below meth c H locs 0 0 (MQ below (va_Qv (fun (_ : Unit) => True) (kBeh dC dI A (xW cI cZ h a qph qgr qne qap qle qfu qpc qgd qri qnw qtk qsv qwa qgi qlo ((X0_putIntoTurns qph qgr qne qap qle qnw qtu i w)))) A) args s 0 0 A) (F0 m pc ls []) := fun H locs pc ls hS hP hD d => k_vret hx hb hr hlocks hS hP hD d
  generalize MQ below _ _ _ _ _ _ = Q at hret ⊢
  have hin : ∀ w ∈ wsX00, w ∈ wsX0_putIntoTurns := by decide +kernel
  have hw0 := hts (.fieldLink RX0 31 "ChargePark" "turns" "[I") (by decide +kernel)
  have hl : lv_has ls 5 [(0, .ref h), (1, .int i), (2, .int (nI w))] := hl
  have hP : va_P (dC, dI) vwCl (xW cI cZ h a qph qgr qne qap qle qfu qpc qgd qri qnw qtk qsv qwa qgi qlo qtu) s.heap := hP
  have hW : ∀ (H : Heap) (locs : List Loc), va_P (dC, dI) vwCl (xW cI cZ h a qph qgr qne qap qle qfu qpc qgd qri qnw qtk qsv qwa qgi qlo qtu) H → va_D A (xW cI cZ h a qph qgr qne qap qle qfu qpc qgd qri qnw qtk qsv qwa qgi qlo qtu) → va_S A s.heap H locs → W p l e rmX0_putIntoTurns s m args below meth c H locs 0 0 Q (F0 m 0 ls []) := by
    intro H locs hP hD hS
    refine lv_aload_n hx hb dX0_putIntoTurns_0 rfl (lv_at hl 0 rfl) ?_
    refine lv_iload_n hx hb dX0_putIntoTurns_1 rfl (lv_at hl 1 rfl) ?_
    refine k_calli (rest := []) (q0 := 0) hC (c_X0_laxityAt l dC dI cI cZ h a qph qgr qne qap qle qfu qpc qgd qri qnw qtk qsv qwa qgi qlo qtu  i hp) (cwV 1 hts gX0_putIntoTurns_X0_laxityAt rfl rfl rfl hd_X0_laxityAt ⟨Nat.le_of_ble_eq_true rfl, Nat.le_of_ble_eq_true rfl⟩) hK hP hD hS hA rfl rfl rfl hl.1 (Nat.le_of_ble_eq_true rfl) dX0_putIntoTurns_2 rfl ⟨Nat.zero_le _, Nat.zero_le _⟩ (fun H locs hP hD hS => ?_)
    refine lv_istore_n (lv' := [(3, .int (X0_laxityAt qph qgr qne qap qle qnw i)), (0, .ref h), (1, .int i), (2, .int (nI w))]) hx hb dX0_putIntoTurns_5 rfl hl (by decide) rfl (fun ls hl => ?_)
    refine lv_iload_n hx hb dX0_putIntoTurns_6 rfl (lv_at hl 3 rfl) ?_
    refine lv_istore (lv' := [(4, .int (nI w)), (3, .int (X0_laxityAt qph qgr qne qap qle qnw i)), (0, .ref h), (1, .int i), (2, .int (nI w))]) hx hb dX0_putIntoTurns_7 hl (by decide) rfl (fun ls hl => ?_)
    have cont9 : ∀ (z1 : Nat), z1 = (X0_putIntoTurns_L9 qph qgr qne qap qle qnw i w  w qtu).1 → ∀ (z2 : AR), z2 = (X0_putIntoTurns_L9 qph qgr qne qap qle qnw i w  w qtu).2 → ∀ (H : Heap) (locs : List Loc) (ls : Array Slot), va_P (dC, dI) vwCl (xW cI cZ h a qph qgr qne qap qle qfu qpc qgd qri qnw qtk qsv qwa qgi qlo z2) H → va_D A (xW cI cZ h a qph qgr qne qap qle qfu qpc qgd qri qnw qtk qsv qwa qgi qlo z2) → va_S A s.heap H locs → lv_has ls 5 [(3, .int (X0_laxityAt qph qgr qne qap qle qnw i)), (0, .ref h), (1, .int i), (2, .int (nI w)), (4, .int (nI z1))] → W p l e rmX0_putIntoTurns s m args below meth c H locs 0 0 Q (F0 m 53 ls []) := by
      intro z1 hz1 z2 hz2 H locs ls hP hD hS hl
      refine lv_aload_n hx hb dX0_putIntoTurns_53 rfl (lv_at hl 1 rfl) ?_
      refine va_get (D := (dC, dI)) (ci := 0) (v := .ref (a 15)) (C := RX0) (T := TX0) (N := 16) hx hb hts hin hown hK hP 0 rfl rfl 15 (by decide) hw0 (fun _ h9 => h9) rfl dX0_putIntoTurns_54 ?_
      refine lv_iload hx hb dX0_putIntoTurns_57 (lv_at hl 4 rfl) ?_
      refine lv_iload_n hx hb dX0_putIntoTurns_59 rfl (lv_at hl 2 rfl) ?_
      refine va_iast (f := z2) hx hb hK hP hD hS 10 0 rfl rfl (vp_in_nI (Nat.lt_of_le_of_lt (by rw [hz1]; exact X0_putIntoTurns_le qph qgr qne qap qle qnw i w _ _) hw) (by decide)) dX0_putIntoTurns_60 (fun H locs hP hD hS => ?_)
      obtain ⟨z3, hz3⟩ : ∃ z : AR, z = (upd z2 (nI z1).toNatClampNeg i) := ⟨_, rfl⟩
      rw [← hz3] at hP hD
      have hP : va_P (dC, dI) vwCl (xW cI cZ h a qph qgr qne qap qle qfu qpc qgd qri qnw qtk qsv qwa qgi qlo z3) H := hP
      have hD : va_D A (xW cI cZ h a qph qgr qne qap qle qfu qpc qgd qri qnw qtk qsv qwa qgi qlo z3) := hD
      subst hz1 hz2 hz3
      have hP : va_P (dC, dI) vwCl (xW cI cZ h a qph qgr qne qap qle qfu qpc qgd qri qnw qtk qsv qwa qgi qlo ((X0_putIntoTurns qph qgr qne qap qle qnw qtu i w))) H := by rw [X0_putIntoTurns]; exact hP
      have hD : va_D A (xW cI cZ h a qph qgr qne qap qle qfu qpc qgd qri qnw qtk qsv qwa qgi qlo ((X0_putIntoTurns qph qgr qne qap qle qnw qtu i w))) := by rw [X0_putIntoTurns]; exact hD
      exact hret H locs 61 ls hS hP hD dX0_putIntoTurns_61
    have loop9 : ∀ (j : Nat) (vtu : AR), j ≤ w → X0_putIntoTurns_L9 qph qgr qne qap qle qnw i w  j vtu = (X0_putIntoTurns_L9 qph qgr qne qap qle qnw i w  w qtu) → (∀ k, k < w → vp_in (vtu k) 8) → ∀ (H : Heap) (locs : List Loc) (ls : Array Slot), va_P (dC, dI) vwCl (xW cI cZ h a qph qgr qne qap qle qfu qpc qgd qri qnw qtk qsv qwa qgi qlo vtu) H → va_D A (xW cI cZ h a qph qgr qne qap qle qfu qpc qgd qri qnw qtk qsv qwa qgi qlo vtu) → va_S A s.heap H locs → lv_has ls 5 [(0, .ref h), (1, .int i), (2, .int (nI w)), (3, .int (X0_laxityAt qph qgr qne qap qle qnw i)), (4, .int (nI j))] → W p l e rmX0_putIntoTurns s m args below meth c H locs 0 0 Q (F0 m 9 ls []) := by
      intro j
      induction j with
      | zero =>
        intro vtu hk hR hv H locs ls hP hD hS hl
        refine lv_iload hx hb dX0_putIntoTurns_9 (lv_at hl 4 rfl) ?_
        refine lv_if_le (tgt := 53) hx hb dX0_putIntoTurns_11 (by decide) (fun _ => ?_) (fun c => absurd nI0_le c)
        exact cont9 0 (by rw [← hR, X0_putIntoTurns_L9]) vtu (by rw [← hR, X0_putIntoTurns_L9]) H locs ls hP hD hS (lv_sub hl [3, 0, 1, 2, 4] rfl)
      | succ j ih =>
        intro vtu hk hR hv H locs ls hP hD hS hl
        refine lv_iload hx hb dX0_putIntoTurns_9 (lv_at hl 4 rfl) ?_
        refine lv_if_le (tgt := 53) hx hb dX0_putIntoTurns_11 (by decide) (fun c => absurd c (nI_nle (Nat.succ_pos _) (by omega))) (fun _ => ?_)
        refine lv_aload_n hx hb dX0_putIntoTurns_14 rfl (lv_at hl 0 rfl) ?_
        refine lv_aload_n hx hb dX0_putIntoTurns_15 rfl (lv_at hl 0 rfl) ?_
        refine va_get (D := (dC, dI)) (ci := 0) (v := .ref (a 15)) (C := RX0) (T := TX0) (N := 16) hx hb hts hin hown hK hP 0 rfl rfl 15 (by decide) hw0 (fun _ h9 => h9) rfl dX0_putIntoTurns_16 ?_
        refine lv_iload hx hb dX0_putIntoTurns_19 (lv_at hl 4 rfl) ?_
        refine lv_iconst (v := 1) hx hb dX0_putIntoTurns_21 (by decide) ?_
        refine lv_isub hx hb dX0_putIntoTurns_22 ?_
        refine va_iald (f := vtu) hx hb hK hP 10 0 rfl rfl (vp_pred (by omega) (by decide)) dX0_putIntoTurns_23 ?_
        refine k_calli (rest := []) (q0 := 0) hC (c_X0_laxityAt l dC dI cI cZ h a qph qgr qne qap qle qfu qpc qgd qri qnw qtk qsv qwa qgi qlo vtu  (vtu ((nI (j + 1)) - 1).toNatClampNeg) (hv _ (by rw [nI_pred, nI_clamp (by omega)]; omega))) (cwV 1 hts gX0_putIntoTurns_X0_laxityAt rfl rfl rfl hd_X0_laxityAt ⟨Nat.le_of_ble_eq_true rfl, Nat.le_of_ble_eq_true rfl⟩) hK hP hD hS hA rfl rfl rfl hl.1 (Nat.le_of_ble_eq_true rfl) dX0_putIntoTurns_24 rfl ⟨Nat.zero_le _, Nat.zero_le _⟩ (fun H locs hP hD hS => ?_)
        refine lv_iload_n hx hb dX0_putIntoTurns_27 rfl (lv_at hl 3 rfl) ?_
        refine lv_icmp_le (tgt := 53) hx hb dX0_putIntoTurns_28 (by decide) (fun c28 => ?_) (fun c28 => ?_)
        · exact cont9 (j + 1) (by rw [← hR, X0_putIntoTurns_L9, if_pos c28]) vtu (by rw [← hR, X0_putIntoTurns_L9, if_pos c28]) H locs ls hP hD hS (lv_sub hl [3, 0, 1, 2, 4] rfl)
        · refine lv_aload_n hx hb dX0_putIntoTurns_31 rfl (lv_at hl 0 rfl) ?_
          refine va_get (D := (dC, dI)) (ci := 0) (v := .ref (a 15)) (C := RX0) (T := TX0) (N := 16) hx hb hts hin hown hK hP 0 rfl rfl 15 (by decide) hw0 (fun _ h9 => h9) rfl dX0_putIntoTurns_32 ?_
          refine lv_iload hx hb dX0_putIntoTurns_35 (lv_at hl 4 rfl) ?_
          refine lv_aload_n hx hb dX0_putIntoTurns_37 rfl (lv_at hl 0 rfl) ?_
          refine va_get (D := (dC, dI)) (ci := 0) (v := .ref (a 15)) (C := RX0) (T := TX0) (N := 16) hx hb hts hin hown hK hP 0 rfl rfl 15 (by decide) hw0 (fun _ h9 => h9) rfl dX0_putIntoTurns_38 ?_
          refine lv_iload hx hb dX0_putIntoTurns_41 (lv_at hl 4 rfl) ?_
          refine lv_iconst (v := 1) hx hb dX0_putIntoTurns_43 (by decide) ?_
          refine lv_isub hx hb dX0_putIntoTurns_44 ?_
          refine va_iald (f := vtu) hx hb hK hP 10 0 rfl rfl (vp_pred (by omega) (by decide)) dX0_putIntoTurns_45 ?_
          refine va_iast (f := vtu) hx hb hK hP hD hS 10 0 rfl rfl (vp_in_nI (by omega) (by decide)) dX0_putIntoTurns_46 (fun H locs hP hD hS => ?_)
          obtain ⟨z4, hz4⟩ : ∃ z : AR, z = (upd vtu (nI (j + 1)).toNatClampNeg (vtu ((nI (j + 1)) - 1).toNatClampNeg)) := ⟨_, rfl⟩
          rw [← hz4] at hP hD
          have hP : va_P (dC, dI) vwCl (xW cI cZ h a qph qgr qne qap qle qfu qpc qgd qri qnw qtk qsv qwa qgi qlo z4) H := hP
          have hD : va_D A (xW cI cZ h a qph qgr qne qap qle qfu qpc qgd qri qnw qtk qsv qwa qgi qlo z4) := hD
          refine lv_iinc (v := (nI j)) (lv' := [(4, .int (nI j)), (0, .ref h), (1, .int i), (2, .int (nI w)), (3, .int (X0_laxityAt qph qgr qne qap qle qnw i))]) hx hb dX0_putIntoTurns_47 hl (k := 4) rfl (nI_m1 j) (by decide) rfl (fun ls hl => ?_)
          refine lv_goto (tgt := 9) hx hb dX0_putIntoTurns_50 (by decide) ?_
          subst hz4
          exact ih (upd vtu (nI (j + 1)).toNatClampNeg (vtu ((nI (j + 1)) - 1).toNatClampNeg)) (by omega) (by rw [← hR, X0_putIntoTurns_L9, if_neg c28]) (upd_in hv (hv _ (by rw [nI_pred, nI_clamp (by omega)]; omega))) H locs ls hP hD hS (lv_sub hl [1, 2, 3, 4, 0] rfl)
    exact loop9 w qtu (Nat.le_refl w) rfl (ht) H locs ls hP hD hS (lv_sub hl [2, 3, 4, 1, 0] rfl)
  exact hW _ _ hP hD hS
end
section
def X0_differenceOfLoads (qlo : AR)  : Int32 := ((if (qlo (0 : Int32).toNatClampNeg) < (if (qlo (1 : Int32).toNatClampNeg) < (qlo (2 : Int32).toNatClampNeg) then (qlo (2 : Int32).toNatClampNeg) else (qlo (1 : Int32).toNatClampNeg)) then (if (qlo (1 : Int32).toNatClampNeg) < (qlo (2 : Int32).toNatClampNeg) then (qlo (2 : Int32).toNatClampNeg) else (qlo (1 : Int32).toNatClampNeg)) else (qlo (0 : Int32).toNatClampNeg)) - (if (if (qlo (2 : Int32).toNatClampNeg) < (qlo (1 : Int32).toNatClampNeg) then (qlo (2 : Int32).toNatClampNeg) else (qlo (1 : Int32).toNatClampNeg)) < (qlo (0 : Int32).toNatClampNeg) then (if (qlo (2 : Int32).toNatClampNeg) < (qlo (1 : Int32).toNatClampNeg) then (qlo (2 : Int32).toNatClampNeg) else (qlo (1 : Int32).toNatClampNeg)) else (qlo (0 : Int32).toNatClampNeg)))
abbrev rmX0_differenceOfLoads : Room := { frames := 1, cells := 0, slots := 0, locals := 14 }
theorem hd_X0_differenceOfLoads : yX0_differenceOfLoads.cls = RX0 ∧ yX0_differenceOfLoads.cls ≠ "java/lang/invoke/MethodHandle" ∧ yX0_differenceOfLoads.cls ≠ "java/lang/invoke/VarHandle" ∧ (parseMethodDescriptor yX0_differenceOfLoads.desc).map (fun d => d.parameters.length) = some 0 := by decide +kernel
set_option maxHeartbeats 4000000 in
set_option maxRecDepth 100000 in
theorem c_X0_differenceOfLoads (l : Launch) (dC : Nat → ClassId) (dI : Nat → Nat → Nat) (cI cZ : ClassId) (h : Nat) (a : Nat → Nat) (qph : AR) (qgr : AR) (qne : AR) (qap : AR) (qle : AR) (qfu : AR) (qpc : Int32) (qgd : Int32) (qri : Int32) (qnw : Int32) (qtk : Int32) (qsv : Int32) (qwa : AR) (qgi : AR) (qlo : AR) (qtu : AR) : Ki l yX0_differenceOfLoads wsX0_differenceOfLoads rmX0_differenceOfLoads dC dI cI cZ [.ref h] (xW cI cZ h a qph qgr qne qap qle qfu qpc qgd qri qnw qtk qsv qwa qgi qlo qtu) (xW cI cZ h a qph qgr qne qap qle qfu qpc qgd qri qnw qtk qsv qwa qgi qlo qtu) (X0_differenceOfLoads qlo) := by
  refine k_enter_i (cc := cX0_differenceOfLoads) (maxL := 3) (ret := some .int) (by decide) rfl (Nat.le_of_ble_eq_true rfl) ?_
  intro p e s m below meth c A ls hC hr hlocks hK hP hD hS hA hl
  generalize List.toArray _ = args at hC ⊢
  obtain ⟨hx, hb, hml, hown, hts⟩ := id hC
  have hret : ∀ (H : Heap) (locs : List Loc) (pc : Nat) (ls : Array Slot) (r : Int32), va_S A s.heap H locs → va_P (dC, dI) vwCl (xW cI cZ h a qph qgr qne qap qle qfu qpc qgd qri qnw qtk qsv qwa qgi qlo qtu) H → va_D A (xW cI cZ h a qph qgr qne qap qle qfu qpc qgd qri qnw qtk qsv qwa qgi qlo qtu) → r = (X0_differenceOfLoads qlo) → decode cX0_differenceOfLoads pc = .ok (.ireturn, 1) → W p l e rmX0_differenceOfLoads s m args below meth c H locs 0 0 (MQ below (va_Qi (fun r (_ : Unit) => r = (X0_differenceOfLoads qlo)) (kBeh dC dI A (xW cI cZ h a qph qgr qne qap qle qfu qpc qgd qri qnw qtk qsv qwa qgi qlo qtu)) A) args s 0 0 A) (F0 m pc ls [.int r]) := fun H locs pc ls r hS hP hD hv d => k_iret hx hb hr hlocks hS hP hD hv d
  generalize MQ below _ _ _ _ _ _ = Q at hret ⊢
  have hin : ∀ w ∈ wsX00, w ∈ wsX0_differenceOfLoads := by decide +kernel
  have hw0 := hts (.fieldLink RX0 34 "ChargePark" "loadOf" "[I") (by decide +kernel)
  have hw1 := hts (.methodLink RX0 87 Lib.Math.max.name) (by decide +kernel)
  have hw2 := hts (.static Lib.Math.max.name) (by decide +kernel)
  have hw3 := hts (.initialized "java/lang/Math") (by decide +kernel)
  have hw4 := hts (.code Lib.Math.max.name Lib.Math.max.code 2 (some .int)) (by decide +kernel)
  have hw5 := hts (.methodLink RX0 132 Lib.Math.min.name) (by decide +kernel)
  have hw6 := hts (.static Lib.Math.min.name) (by decide +kernel)
  have hw7 := hts (.code Lib.Math.min.name Lib.Math.min.code 2 (some .int)) (by decide +kernel)
  have hl : lv_has ls 3 [(0, .ref h)] := hl
  have hP : va_P (dC, dI) vwCl (xW cI cZ h a qph qgr qne qap qle qfu qpc qgd qri qnw qtk qsv qwa qgi qlo qtu) s.heap := hP
  have hW : ∀ (H : Heap) (locs : List Loc), va_P (dC, dI) vwCl (xW cI cZ h a qph qgr qne qap qle qfu qpc qgd qri qnw qtk qsv qwa qgi qlo qtu) H → va_D A (xW cI cZ h a qph qgr qne qap qle qfu qpc qgd qri qnw qtk qsv qwa qgi qlo qtu) → va_S A s.heap H locs → W p l e rmX0_differenceOfLoads s m args below meth c H locs 0 0 Q (F0 m 0 ls []) := by
    intro H locs hP hD hS
    refine lv_aload_n hx hb dX0_differenceOfLoads_0 rfl (lv_at hl 0 rfl) ?_
    refine va_get (D := (dC, dI)) (ci := 0) (v := .ref (a 14)) (C := RX0) (T := TX0) (N := 16) hx hb hts hin hown hK hP 0 rfl rfl 14 (by decide) hw0 (fun _ h9 => h9) rfl dX0_differenceOfLoads_1 ?_
    refine lv_iconst (v := 0) hx hb dX0_differenceOfLoads_4 (by decide) ?_
    refine va_iald (f := qlo) hx hb hK hP 9 0 rfl rfl vpc0_3 dX0_differenceOfLoads_5 ?_
    refine lv_aload_n hx hb dX0_differenceOfLoads_6 rfl (lv_at hl 0 rfl) ?_
    refine va_get (D := (dC, dI)) (ci := 0) (v := .ref (a 14)) (C := RX0) (T := TX0) (N := 16) hx hb hts hin hown hK hP 0 rfl rfl 14 (by decide) hw0 (fun _ h9 => h9) rfl dX0_differenceOfLoads_7 ?_
    refine lv_iconst (v := 1) hx hb dX0_differenceOfLoads_10 (by decide) ?_
    refine va_iald (f := qlo) hx hb hK hP 9 0 rfl rfl vpc1_3 dX0_differenceOfLoads_11 ?_
    refine lv_aload_n hx hb dX0_differenceOfLoads_12 rfl (lv_at hl 0 rfl) ?_
    refine va_get (D := (dC, dI)) (ci := 0) (v := .ref (a 14)) (C := RX0) (T := TX0) (N := 16) hx hb hts hin hown hK hP 0 rfl rfl 14 (by decide) hw0 (fun _ h9 => h9) rfl dX0_differenceOfLoads_13 ?_
    refine lv_iconst (v := 2) hx hb dX0_differenceOfLoads_16 (by decide) ?_
    refine va_iald (f := qlo) hx hb hK hP 9 0 rfl rfl vpc2_3 dX0_differenceOfLoads_17 ?_
    refine va_mmax hx hb (hml.trans hl.1.symm) hown hw1 hw2 hw3 hw4 (Nat.le_of_ble_eq_true rfl) (Nat.le_of_ble_eq_true rfl) (Nat.zero_le _) (Nat.zero_le _) dX0_differenceOfLoads_18 ?_
    refine va_mmax hx hb (hml.trans hl.1.symm) hown hw1 hw2 hw3 hw4 (Nat.le_of_ble_eq_true rfl) (Nat.le_of_ble_eq_true rfl) (Nat.zero_le _) (Nat.zero_le _) dX0_differenceOfLoads_21 ?_
    refine lv_istore_n (lv' := [(1, .int (if (qlo (0 : Int32).toNatClampNeg) < (if (qlo (1 : Int32).toNatClampNeg) < (qlo (2 : Int32).toNatClampNeg) then (qlo (2 : Int32).toNatClampNeg) else (qlo (1 : Int32).toNatClampNeg)) then (if (qlo (1 : Int32).toNatClampNeg) < (qlo (2 : Int32).toNatClampNeg) then (qlo (2 : Int32).toNatClampNeg) else (qlo (1 : Int32).toNatClampNeg)) else (qlo (0 : Int32).toNatClampNeg))), (0, .ref h)]) hx hb dX0_differenceOfLoads_24 rfl hl (by decide) rfl (fun ls hl => ?_)
    refine lv_aload_n hx hb dX0_differenceOfLoads_25 rfl (lv_at hl 1 rfl) ?_
    refine va_get (D := (dC, dI)) (ci := 0) (v := .ref (a 14)) (C := RX0) (T := TX0) (N := 16) hx hb hts hin hown hK hP 0 rfl rfl 14 (by decide) hw0 (fun _ h9 => h9) rfl dX0_differenceOfLoads_26 ?_
    refine lv_iconst (v := 0) hx hb dX0_differenceOfLoads_29 (by decide) ?_
    refine va_iald (f := qlo) hx hb hK hP 9 0 rfl rfl vpc0_3 dX0_differenceOfLoads_30 ?_
    refine lv_aload_n hx hb dX0_differenceOfLoads_31 rfl (lv_at hl 1 rfl) ?_
    refine va_get (D := (dC, dI)) (ci := 0) (v := .ref (a 14)) (C := RX0) (T := TX0) (N := 16) hx hb hts hin hown hK hP 0 rfl rfl 14 (by decide) hw0 (fun _ h9 => h9) rfl dX0_differenceOfLoads_32 ?_
    refine lv_iconst (v := 1) hx hb dX0_differenceOfLoads_35 (by decide) ?_
    refine va_iald (f := qlo) hx hb hK hP 9 0 rfl rfl vpc1_3 dX0_differenceOfLoads_36 ?_
    refine lv_aload_n hx hb dX0_differenceOfLoads_37 rfl (lv_at hl 1 rfl) ?_
    refine va_get (D := (dC, dI)) (ci := 0) (v := .ref (a 14)) (C := RX0) (T := TX0) (N := 16) hx hb hts hin hown hK hP 0 rfl rfl 14 (by decide) hw0 (fun _ h9 => h9) rfl dX0_differenceOfLoads_38 ?_
    refine lv_iconst (v := 2) hx hb dX0_differenceOfLoads_41 (by decide) ?_
    refine va_iald (f := qlo) hx hb hK hP 9 0 rfl rfl vpc2_3 dX0_differenceOfLoads_42 ?_
    refine va_mmin hx hb (hml.trans hl.1.symm) hown hw5 hw6 hw3 hw7 (Nat.le_of_ble_eq_true rfl) (Nat.le_of_ble_eq_true rfl) (Nat.zero_le _) (Nat.zero_le _) dX0_differenceOfLoads_43 ?_
    refine va_mmin hx hb (hml.trans hl.1.symm) hown hw5 hw6 hw3 hw7 (Nat.le_of_ble_eq_true rfl) (Nat.le_of_ble_eq_true rfl) (Nat.zero_le _) (Nat.zero_le _) dX0_differenceOfLoads_46 ?_
    refine lv_istore_n (lv' := [(2, .int (if (if (qlo (2 : Int32).toNatClampNeg) < (qlo (1 : Int32).toNatClampNeg) then (qlo (2 : Int32).toNatClampNeg) else (qlo (1 : Int32).toNatClampNeg)) < (qlo (0 : Int32).toNatClampNeg) then (if (qlo (2 : Int32).toNatClampNeg) < (qlo (1 : Int32).toNatClampNeg) then (qlo (2 : Int32).toNatClampNeg) else (qlo (1 : Int32).toNatClampNeg)) else (qlo (0 : Int32).toNatClampNeg))), (1, .int (if (qlo (0 : Int32).toNatClampNeg) < (if (qlo (1 : Int32).toNatClampNeg) < (qlo (2 : Int32).toNatClampNeg) then (qlo (2 : Int32).toNatClampNeg) else (qlo (1 : Int32).toNatClampNeg)) then (if (qlo (1 : Int32).toNatClampNeg) < (qlo (2 : Int32).toNatClampNeg) then (qlo (2 : Int32).toNatClampNeg) else (qlo (1 : Int32).toNatClampNeg)) else (qlo (0 : Int32).toNatClampNeg))), (0, .ref h)]) hx hb dX0_differenceOfLoads_49 rfl hl (by decide) rfl (fun ls hl => ?_)
    refine lv_iload_n hx hb dX0_differenceOfLoads_50 rfl (lv_at hl 1 rfl) ?_
    refine lv_iload_n hx hb dX0_differenceOfLoads_51 rfl (lv_at hl 0 rfl) ?_
    refine lv_isub hx hb dX0_differenceOfLoads_52 ?_
    exact hret H locs 53 ls ((if (qlo (0 : Int32).toNatClampNeg) < (if (qlo (1 : Int32).toNatClampNeg) < (qlo (2 : Int32).toNatClampNeg) then (qlo (2 : Int32).toNatClampNeg) else (qlo (1 : Int32).toNatClampNeg)) then (if (qlo (1 : Int32).toNatClampNeg) < (qlo (2 : Int32).toNatClampNeg) then (qlo (2 : Int32).toNatClampNeg) else (qlo (1 : Int32).toNatClampNeg)) else (qlo (0 : Int32).toNatClampNeg)) - (if (if (qlo (2 : Int32).toNatClampNeg) < (qlo (1 : Int32).toNatClampNeg) then (qlo (2 : Int32).toNatClampNeg) else (qlo (1 : Int32).toNatClampNeg)) < (qlo (0 : Int32).toNatClampNeg) then (if (qlo (2 : Int32).toNatClampNeg) < (qlo (1 : Int32).toNatClampNeg) then (qlo (2 : Int32).toNatClampNeg) else (qlo (1 : Int32).toNatClampNeg)) else (qlo (0 : Int32).toNatClampNeg))) hS hP hD (by rw [X0_differenceOfLoads]) dX0_differenceOfLoads_53
  exact hW _ _ hP hD hS
def X0_phaseOfGreatestLoad_L4 (qlo : AR)  : Nat → Nat → Int32 → Int32
  | 0, k, g => g
  | j + 1, k, g => (if (qlo (nI k).toNatClampNeg) ≤ (qlo g.toNatClampNeg) then X0_phaseOfGreatestLoad_L4 qlo  j (k + 1) g else X0_phaseOfGreatestLoad_L4 qlo  j (k + 1) (nI k))
def X0_phaseOfGreatestLoad (qlo : AR)  : Int32 := ((X0_phaseOfGreatestLoad_L4 qlo  2 1 0))
abbrev rmX0_phaseOfGreatestLoad : Room := { frames := 0, cells := 0, slots := 0, locals := 0 }
theorem hd_X0_phaseOfGreatestLoad : yX0_phaseOfGreatestLoad.cls = RX0 ∧ yX0_phaseOfGreatestLoad.cls ≠ "java/lang/invoke/MethodHandle" ∧ yX0_phaseOfGreatestLoad.cls ≠ "java/lang/invoke/VarHandle" ∧ (parseMethodDescriptor yX0_phaseOfGreatestLoad.desc).map (fun d => d.parameters.length) = some 0 := by decide +kernel
set_option maxHeartbeats 4000000 in
set_option maxRecDepth 100000 in
theorem c_X0_phaseOfGreatestLoad (l : Launch) (dC : Nat → ClassId) (dI : Nat → Nat → Nat) (cI cZ : ClassId) (h : Nat) (a : Nat → Nat) (qph : AR) (qgr : AR) (qne : AR) (qap : AR) (qle : AR) (qfu : AR) (qpc : Int32) (qgd : Int32) (qri : Int32) (qnw : Int32) (qtk : Int32) (qsv : Int32) (qwa : AR) (qgi : AR) (qlo : AR) (qtu : AR) : Ki l yX0_phaseOfGreatestLoad wsX0_phaseOfGreatestLoad rmX0_phaseOfGreatestLoad dC dI cI cZ [.ref h] (xW cI cZ h a qph qgr qne qap qle qfu qpc qgd qri qnw qtk qsv qwa qgi qlo qtu) (xW cI cZ h a qph qgr qne qap qle qfu qpc qgd qri qnw qtk qsv qwa qgi qlo qtu) (X0_phaseOfGreatestLoad qlo) := by
  refine k_enter_i (cc := cX0_phaseOfGreatestLoad) (maxL := 3) (ret := some .int) (by decide) rfl (Nat.le_of_ble_eq_true rfl) ?_
  intro p e s m below meth c A ls hC hr hlocks hK hP hD hS hA hl
  generalize List.toArray _ = args at hC ⊢
  obtain ⟨hx, hb, hml, hown, hts⟩ := id hC
  have hret : ∀ (H : Heap) (locs : List Loc) (pc : Nat) (ls : Array Slot) (r : Int32), va_S A s.heap H locs → va_P (dC, dI) vwCl (xW cI cZ h a qph qgr qne qap qle qfu qpc qgd qri qnw qtk qsv qwa qgi qlo qtu) H → va_D A (xW cI cZ h a qph qgr qne qap qle qfu qpc qgd qri qnw qtk qsv qwa qgi qlo qtu) → r = (X0_phaseOfGreatestLoad qlo) → decode cX0_phaseOfGreatestLoad pc = .ok (.ireturn, 1) → W p l e rmX0_phaseOfGreatestLoad s m args below meth c H locs 0 0 (MQ below (va_Qi (fun r (_ : Unit) => r = (X0_phaseOfGreatestLoad qlo)) (kBeh dC dI A (xW cI cZ h a qph qgr qne qap qle qfu qpc qgd qri qnw qtk qsv qwa qgi qlo qtu)) A) args s 0 0 A) (F0 m pc ls [.int r]) := fun H locs pc ls r hS hP hD hv d => k_iret hx hb hr hlocks hS hP hD hv d
  generalize MQ below _ _ _ _ _ _ = Q at hret ⊢
  have hin : ∀ w ∈ wsX00, w ∈ wsX0_phaseOfGreatestLoad := by decide +kernel
  have hw0 := hts (.fieldLink RX0 34 "ChargePark" "loadOf" "[I") (by decide +kernel)
  have hl : lv_has ls 3 [(0, .ref h)] := hl
  have hP : va_P (dC, dI) vwCl (xW cI cZ h a qph qgr qne qap qle qfu qpc qgd qri qnw qtk qsv qwa qgi qlo qtu) s.heap := hP
  have hW : ∀ (H : Heap) (locs : List Loc), va_P (dC, dI) vwCl (xW cI cZ h a qph qgr qne qap qle qfu qpc qgd qri qnw qtk qsv qwa qgi qlo qtu) H → va_D A (xW cI cZ h a qph qgr qne qap qle qfu qpc qgd qri qnw qtk qsv qwa qgi qlo qtu) → va_S A s.heap H locs → W p l e rmX0_phaseOfGreatestLoad s m args below meth c H locs 0 0 Q (F0 m 0 ls []) := by
    intro H locs hP hD hS
    refine lv_iconst (v := 0) hx hb dX0_phaseOfGreatestLoad_0 (by decide) ?_
    refine lv_istore_n (lv' := [(1, .int 0), (0, .ref h)]) hx hb dX0_phaseOfGreatestLoad_1 rfl hl (by decide) rfl (fun ls hl => ?_)
    refine lv_iconst (v := 1) hx hb dX0_phaseOfGreatestLoad_2 (by decide) ?_
    refine lv_istore_n (lv' := [(2, .int 1), (1, .int 0), (0, .ref h)]) hx hb dX0_phaseOfGreatestLoad_3 rfl hl (by decide) rfl (fun ls hl => ?_)
    have cont4 : ∀ (z1 : Int32), z1 = (X0_phaseOfGreatestLoad_L4 qlo  2 1 0) → ∀ (H : Heap) (locs : List Loc) (ls : Array Slot), va_P (dC, dI) vwCl (xW cI cZ h a qph qgr qne qap qle qfu qpc qgd qri qnw qtk qsv qwa qgi qlo qtu) H → va_D A (xW cI cZ h a qph qgr qne qap qle qfu qpc qgd qri qnw qtk qsv qwa qgi qlo qtu) → va_S A s.heap H locs → lv_has ls 3 [(0, .ref h), (1, .int z1)] → W p l e rmX0_phaseOfGreatestLoad s m args below meth c H locs 0 0 Q (F0 m 32 ls []) := by
      intro z1 hz1 H locs ls hP hD hS hl
      refine lv_iload_n hx hb dX0_phaseOfGreatestLoad_32 rfl (lv_at hl 1 rfl) ?_
      subst hz1
      exact hret H locs 33 ls ((X0_phaseOfGreatestLoad_L4 qlo  2 1 0)) hS hP hD (by rw [X0_phaseOfGreatestLoad]) dX0_phaseOfGreatestLoad_33
    have loop4 : ∀ (j k : Nat) (g : Int32), k + j = 3 → X0_phaseOfGreatestLoad_L4 qlo  j k g = (X0_phaseOfGreatestLoad_L4 qlo  2 1 0) → (vp_in g 3) → ∀ (H : Heap) (locs : List Loc) (ls : Array Slot), va_P (dC, dI) vwCl (xW cI cZ h a qph qgr qne qap qle qfu qpc qgd qri qnw qtk qsv qwa qgi qlo qtu) H → va_D A (xW cI cZ h a qph qgr qne qap qle qfu qpc qgd qri qnw qtk qsv qwa qgi qlo qtu) → va_S A s.heap H locs → lv_has ls 3 [(0, .ref h), (1, .int g), (2, .int (nI k))] → W p l e rmX0_phaseOfGreatestLoad s m args below meth c H locs 0 0 Q (F0 m 4 ls []) := by
      intro j
      induction j with
      | zero =>
        intro k g hk hR hg H locs ls hP hD hS hl
        refine lv_iload_n hx hb dX0_phaseOfGreatestLoad_4 rfl (lv_at hl 2 rfl) ?_
        refine lv_iconst (v := 3) hx hb dX0_phaseOfGreatestLoad_5 (by decide) ?_
        refine lv_icmp_ge (tgt := 32) hx hb dX0_phaseOfGreatestLoad_6 (by decide) (fun _ => ?_) (fun c => absurd (by rw [nIl3]; exact nI_le (by omega) (by omega)) c)
        exact cont4 g (by rw [← hR, X0_phaseOfGreatestLoad_L4]) H locs ls hP hD hS (lv_sub hl [0, 1] rfl)
      | succ j ih =>
        intro k g hk hR hg H locs ls hP hD hS hl
        refine lv_iload_n hx hb dX0_phaseOfGreatestLoad_4 rfl (lv_at hl 2 rfl) ?_
        refine lv_iconst (v := 3) hx hb dX0_phaseOfGreatestLoad_5 (by decide) ?_
        refine lv_icmp_ge (tgt := 32) hx hb dX0_phaseOfGreatestLoad_6 (by decide) (fun c => absurd c (by rw [nIl3]; exact nI_ge (by omega) (by omega))) (fun _ => ?_)
        refine lv_aload_n hx hb dX0_phaseOfGreatestLoad_9 rfl (lv_at hl 0 rfl) ?_
        refine va_get (D := (dC, dI)) (ci := 0) (v := .ref (a 14)) (C := RX0) (T := TX0) (N := 16) hx hb hts hin hown hK hP 0 rfl rfl 14 (by decide) hw0 (fun _ h9 => h9) rfl dX0_phaseOfGreatestLoad_10 ?_
        refine lv_iload_n hx hb dX0_phaseOfGreatestLoad_13 rfl (lv_at hl 2 rfl) ?_
        refine va_iald (f := qlo) hx hb hK hP 9 0 rfl rfl (vp_in_nI (by omega) (by decide)) dX0_phaseOfGreatestLoad_14 ?_
        refine lv_aload_n hx hb dX0_phaseOfGreatestLoad_15 rfl (lv_at hl 0 rfl) ?_
        refine va_get (D := (dC, dI)) (ci := 0) (v := .ref (a 14)) (C := RX0) (T := TX0) (N := 16) hx hb hts hin hown hK hP 0 rfl rfl 14 (by decide) hw0 (fun _ h9 => h9) rfl dX0_phaseOfGreatestLoad_16 ?_
        refine lv_iload_n hx hb dX0_phaseOfGreatestLoad_19 rfl (lv_at hl 1 rfl) ?_
        refine va_iald (f := qlo) hx hb hK hP 9 0 rfl rfl hg dX0_phaseOfGreatestLoad_20 ?_
        refine lv_icmp_le (tgt := 26) hx hb dX0_phaseOfGreatestLoad_21 (by decide) (fun c21 => ?_) (fun c21 => ?_)
        · refine lv_iinc (v := (nI (k + 1))) (lv' := [(2, .int (nI (k + 1))), (0, .ref h), (1, .int g)]) hx hb dX0_phaseOfGreatestLoad_26 hl (k := 2) rfl (nI_1 k) (by decide) rfl (fun ls hl => ?_)
          refine lv_goto (tgt := 4) hx hb dX0_phaseOfGreatestLoad_29 (by decide) ?_
          exact ih (k + 1) g (by omega) (by rw [← hR, X0_phaseOfGreatestLoad_L4, if_pos c21]) (by first | exact hg | exact vp_in_nI (by omega) (by decide)) H locs ls hP hD hS (lv_sub hl [1, 2, 0] rfl)
        · refine lv_iload_n hx hb dX0_phaseOfGreatestLoad_24 rfl (lv_at hl 2 rfl) ?_
          refine lv_istore_n (lv' := [(1, .int (nI k)), (0, .ref h), (2, .int (nI k))]) hx hb dX0_phaseOfGreatestLoad_25 rfl hl (by decide) rfl (fun ls hl => ?_)
          refine lv_iinc (v := (nI (k + 1))) (lv' := [(2, .int (nI (k + 1))), (1, .int (nI k)), (0, .ref h)]) hx hb dX0_phaseOfGreatestLoad_26 hl (k := 2) rfl (nI_1 k) (by decide) rfl (fun ls hl => ?_)
          refine lv_goto (tgt := 4) hx hb dX0_phaseOfGreatestLoad_29 (by decide) ?_
          exact ih (k + 1) (nI k) (by omega) (by rw [← hR, X0_phaseOfGreatestLoad_L4, if_neg c21]) (by first | exact hg | exact vp_in_nI (by omega) (by decide)) H locs ls hP hD hS (lv_sub hl [2, 1, 0] rfl)
    exact loop4 2 1 0 (by omega) rfl (vpc0_3) H locs ls hP hD hS (lv_sub hl [2, 1, 0] rfl)
  exact hW _ _ hP hD hS
def X0_mostGivenAloneAt_L7 (qph : AR) (qgi : AR) (n : Nat) (f : Int32) : Nat → Nat → Int32 → Int32 → Int32 × Int32
  | 0, k, fo, mo => (fo, mo)
  | j + 1, k, fo, mo => (if (qph (nI k).toNatClampNeg) = f then (if (qgi (nI k).toNatClampNeg) < mo then X0_mostGivenAloneAt_L7 qph qgi n f  j (k + 1) fo mo else X0_mostGivenAloneAt_L7 qph qgi n f  j (k + 1) (nI k) (qgi (nI k).toNatClampNeg)) else X0_mostGivenAloneAt_L7 qph qgi n f  j (k + 1) fo mo)
def X0_mostGivenAloneAt (qph : AR) (qgi : AR) (n : Nat) (f : Int32) : Int32 := ((X0_mostGivenAloneAt_L7 qph qgi n f  n 0 (-1) 1).1)
abbrev rmX0_mostGivenAloneAt : Room := { frames := 0, cells := 0, slots := 0, locals := 0 }
theorem hd_X0_mostGivenAloneAt : yX0_mostGivenAloneAt.cls = RX0 ∧ yX0_mostGivenAloneAt.cls ≠ "java/lang/invoke/MethodHandle" ∧ yX0_mostGivenAloneAt.cls ≠ "java/lang/invoke/VarHandle" ∧ (parseMethodDescriptor yX0_mostGivenAloneAt.desc).map (fun d => d.parameters.length) = some 1 := by decide +kernel
theorem X0_mostGivenAloneAt_inL (qph : AR) (qgi : AR) (n : Nat) (f : Int32) (hn : n ≤ 8) : ∀ (j k : Nat) (fo mo : Int32), k + j = n → (fo = -1 ∨ vp_in fo 8) → ((X0_mostGivenAloneAt_L7 qph qgi n f j k fo mo).1 = -1 ∨ vp_in (X0_mostGivenAloneAt_L7 qph qgi n f j k fo mo).1 8) := by
  intro j
  induction j with
  | zero => intro k fo mo hk h; rw [X0_mostGivenAloneAt_L7]; exact h
  | succ j ih =>
    intro k fo mo hk h
    rw [X0_mostGivenAloneAt_L7]
    split
    · split
      · exact ih _ _ _ (by omega) h
      · exact ih _ _ _ (by omega) (Or.inr (vp_in_nI (by omega) (by decide)))
    · exact ih _ _ _ (by omega) h
theorem X0_mostGivenAloneAt_in (qph : AR) (qgi : AR) (n : Nat) (f : Int32) (hn : n ≤ 8) : X0_mostGivenAloneAt qph qgi n f = -1 ∨ vp_in (X0_mostGivenAloneAt qph qgi n f) 8 := by
  rw [X0_mostGivenAloneAt]
  exact X0_mostGivenAloneAt_inL qph qgi n f hn n 0 (-1) 1 (by omega) (Or.inl rfl)
set_option maxHeartbeats 4000000 in
set_option maxRecDepth 100000 in
theorem c_X0_mostGivenAloneAt (l : Launch) (dC : Nat → ClassId) (dI : Nat → Nat → Nat) (cI cZ : ClassId) (h : Nat) (a : Nat → Nat) (qph : AR) (qgr : AR) (qne : AR) (qap : AR) (qle : AR) (qfu : AR) (qpc : Int32) (qgd : Int32) (qri : Int32) (qnw : Int32) (qtk : Int32) (qsv : Int32) (qwa : AR) (qgi : AR) (qlo : AR) (qtu : AR) (n : Nat) (f : Int32) (hpc : qpc = nI n) (hn : n ≤ 8) : Ki l yX0_mostGivenAloneAt wsX0_mostGivenAloneAt rmX0_mostGivenAloneAt dC dI cI cZ [.ref h, .int f] (xW cI cZ h a qph qgr qne qap qle qfu qpc qgd qri qnw qtk qsv qwa qgi qlo qtu) (xW cI cZ h a qph qgr qne qap qle qfu qpc qgd qri qnw qtk qsv qwa qgi qlo qtu) (X0_mostGivenAloneAt qph qgi n f) := by
  refine k_enter_i (cc := cX0_mostGivenAloneAt) (maxL := 5) (ret := some .int) (by decide) rfl (Nat.le_of_ble_eq_true rfl) ?_
  intro p e s m below meth c A ls hC hr hlocks hK hP hD hS hA hl
  generalize List.toArray _ = args at hC ⊢
  obtain ⟨hx, hb, hml, hown, hts⟩ := id hC
  have hret : ∀ (H : Heap) (locs : List Loc) (pc : Nat) (ls : Array Slot) (r : Int32), va_S A s.heap H locs → va_P (dC, dI) vwCl (xW cI cZ h a qph qgr qne qap qle qfu qpc qgd qri qnw qtk qsv qwa qgi qlo qtu) H → va_D A (xW cI cZ h a qph qgr qne qap qle qfu qpc qgd qri qnw qtk qsv qwa qgi qlo qtu) → r = (X0_mostGivenAloneAt qph qgi n f) → decode cX0_mostGivenAloneAt pc = .ok (.ireturn, 1) → W p l e rmX0_mostGivenAloneAt s m args below meth c H locs 0 0 (MQ below (va_Qi (fun r (_ : Unit) => r = (X0_mostGivenAloneAt qph qgi n f)) (kBeh dC dI A (xW cI cZ h a qph qgr qne qap qle qfu qpc qgd qri qnw qtk qsv qwa qgi qlo qtu)) A) args s 0 0 A) (F0 m pc ls [.int r]) := fun H locs pc ls r hS hP hD hv d => k_iret hx hb hr hlocks hS hP hD hv d
  generalize MQ below _ _ _ _ _ _ = Q at hret ⊢
  have hin : ∀ w ∈ wsX00, w ∈ wsX0_mostGivenAloneAt := by decide +kernel
  have hw0 := hts (.fieldLink RX0 55 "ChargePark" "pointCount" "I") (by decide +kernel)
  have hw1 := hts (.fieldLink RX0 9 "ChargePark" "phaseOf" "[I") (by decide +kernel)
  have hw2 := hts (.fieldLink RX0 28 "ChargePark" "given" "[I") (by decide +kernel)
  have hl : lv_has ls 5 [(0, .ref h), (1, .int f)] := hl
  have hP : va_P (dC, dI) vwCl (xW cI cZ h a qph qgr qne qap qle qfu qpc qgd qri qnw qtk qsv qwa qgi qlo qtu) s.heap := hP
  have hW : ∀ (H : Heap) (locs : List Loc), va_P (dC, dI) vwCl (xW cI cZ h a qph qgr qne qap qle qfu qpc qgd qri qnw qtk qsv qwa qgi qlo qtu) H → va_D A (xW cI cZ h a qph qgr qne qap qle qfu qpc qgd qri qnw qtk qsv qwa qgi qlo qtu) → va_S A s.heap H locs → W p l e rmX0_mostGivenAloneAt s m args below meth c H locs 0 0 Q (F0 m 0 ls []) := by
    intro H locs hP hD hS
    refine lv_iconst (v := (-1)) hx hb dX0_mostGivenAloneAt_0 (by decide) ?_
    refine lv_istore_n (lv' := [(2, .int (-1)), (0, .ref h), (1, .int f)]) hx hb dX0_mostGivenAloneAt_1 rfl hl (by decide) rfl (fun ls hl => ?_)
    refine lv_iconst (v := 1) hx hb dX0_mostGivenAloneAt_2 (by decide) ?_
    refine lv_istore_n (lv' := [(3, .int 1), (2, .int (-1)), (0, .ref h), (1, .int f)]) hx hb dX0_mostGivenAloneAt_3 rfl hl (by decide) rfl (fun ls hl => ?_)
    refine lv_iconst (v := 0) hx hb dX0_mostGivenAloneAt_4 (by decide) ?_
    refine lv_istore (lv' := [(4, .int 0), (3, .int 1), (2, .int (-1)), (0, .ref h), (1, .int f)]) hx hb dX0_mostGivenAloneAt_5 hl (by decide) rfl (fun ls hl => ?_)
    have cont7 : ∀ (z1 : Int32), z1 = (X0_mostGivenAloneAt_L7 qph qgi n f  n 0 (-1) 1).1 → ∀ (z2 : Int32), z2 = (X0_mostGivenAloneAt_L7 qph qgi n f  n 0 (-1) 1).2 → ∀ (H : Heap) (locs : List Loc) (ls : Array Slot), va_P (dC, dI) vwCl (xW cI cZ h a qph qgr qne qap qle qfu qpc qgd qri qnw qtk qsv qwa qgi qlo qtu) H → va_D A (xW cI cZ h a qph qgr qne qap qle qfu qpc qgd qri qnw qtk qsv qwa qgi qlo qtu) → va_S A s.heap H locs → lv_has ls 5 [(0, .ref h), (1, .int f), (2, .int z1), (3, .int z2)] → W p l e rmX0_mostGivenAloneAt s m args below meth c H locs 0 0 Q (F0 m 55 ls []) := by
      intro z1 hz1 z2 hz2 H locs ls hP hD hS hl
      refine lv_iload_n hx hb dX0_mostGivenAloneAt_55 rfl (lv_at hl 2 rfl) ?_
      subst hz1 hz2
      exact hret H locs 56 ls ((X0_mostGivenAloneAt_L7 qph qgi n f  n 0 (-1) 1).1) hS hP hD (by rw [X0_mostGivenAloneAt]) dX0_mostGivenAloneAt_56
    have loop7 : ∀ (j k : Nat) (fo : Int32) (mo : Int32), k + j = n → X0_mostGivenAloneAt_L7 qph qgi n f  j k fo mo = (X0_mostGivenAloneAt_L7 qph qgi n f  n 0 (-1) 1) → ∀ (H : Heap) (locs : List Loc) (ls : Array Slot), va_P (dC, dI) vwCl (xW cI cZ h a qph qgr qne qap qle qfu qpc qgd qri qnw qtk qsv qwa qgi qlo qtu) H → va_D A (xW cI cZ h a qph qgr qne qap qle qfu qpc qgd qri qnw qtk qsv qwa qgi qlo qtu) → va_S A s.heap H locs → lv_has ls 5 [(0, .ref h), (1, .int f), (2, .int fo), (3, .int mo), (4, .int (nI k))] → W p l e rmX0_mostGivenAloneAt s m args below meth c H locs 0 0 Q (F0 m 7 ls []) := by
      intro j
      induction j with
      | zero =>
        intro k fo mo hk hR  H locs ls hP hD hS hl
        refine lv_iload hx hb dX0_mostGivenAloneAt_7 (lv_at hl 4 rfl) ?_
        refine lv_aload_n hx hb dX0_mostGivenAloneAt_9 rfl (lv_at hl 0 rfl) ?_
        refine va_get (D := (dC, dI)) (ci := 0) (v := .int qpc) (C := RX0) (T := TX0) (N := 16) hx hb hts hin hown hK hP 0 rfl rfl 6 (by decide) hw0 (fun _ h9 => h9) rfl dX0_mostGivenAloneAt_10 ?_
        refine lv_icmp_ge (tgt := 55) hx hb dX0_mostGivenAloneAt_13 (by decide) (fun _ => ?_) (fun c => absurd (by rw [hpc]; exact nI_le (by omega) (by omega)) c)
        exact cont7 fo (by rw [← hR, X0_mostGivenAloneAt_L7]) mo (by rw [← hR, X0_mostGivenAloneAt_L7]) H locs ls hP hD hS (lv_sub hl [0, 1, 2, 3] rfl)
      | succ j ih =>
        intro k fo mo hk hR  H locs ls hP hD hS hl
        refine lv_iload hx hb dX0_mostGivenAloneAt_7 (lv_at hl 4 rfl) ?_
        refine lv_aload_n hx hb dX0_mostGivenAloneAt_9 rfl (lv_at hl 0 rfl) ?_
        refine va_get (D := (dC, dI)) (ci := 0) (v := .int qpc) (C := RX0) (T := TX0) (N := 16) hx hb hts hin hown hK hP 0 rfl rfl 6 (by decide) hw0 (fun _ h9 => h9) rfl dX0_mostGivenAloneAt_10 ?_
        refine lv_icmp_ge (tgt := 55) hx hb dX0_mostGivenAloneAt_13 (by decide) (fun c => absurd c (by rw [hpc]; exact nI_ge (by omega) (by omega))) (fun _ => ?_)
        refine lv_aload_n hx hb dX0_mostGivenAloneAt_16 rfl (lv_at hl 0 rfl) ?_
        refine va_get (D := (dC, dI)) (ci := 0) (v := .ref (a 0)) (C := RX0) (T := TX0) (N := 16) hx hb hts hin hown hK hP 0 rfl rfl 0 (by decide) hw1 (fun _ h9 => h9) rfl dX0_mostGivenAloneAt_17 ?_
        refine lv_iload hx hb dX0_mostGivenAloneAt_20 (lv_at hl 4 rfl) ?_
        refine va_iald (f := qph) hx hb hK hP 1 0 rfl rfl (vp_in_nI (by omega) (by decide)) dX0_mostGivenAloneAt_22 ?_
        refine lv_iload_n hx hb dX0_mostGivenAloneAt_23 rfl (lv_at hl 1 rfl) ?_
        refine lv_icmp_ne (tgt := 49) hx hb dX0_mostGivenAloneAt_24 (by decide) (fun c24 => ?_) (fun c24 => ?_)
        · refine lv_iinc (v := (nI (k + 1))) (lv' := [(4, .int (nI (k + 1))), (0, .ref h), (1, .int f), (2, .int fo), (3, .int mo)]) hx hb dX0_mostGivenAloneAt_49 hl (k := 4) rfl (nI_1 k) (by decide) rfl (fun ls hl => ?_)
          refine lv_goto (tgt := 7) hx hb dX0_mostGivenAloneAt_52 (by decide) ?_
          exact ih (k + 1) fo mo (by omega) (by rw [← hR, X0_mostGivenAloneAt_L7, if_neg c24])  H locs ls hP hD hS (lv_sub hl [1, 2, 3, 4, 0] rfl)
        · refine lv_aload_n hx hb dX0_mostGivenAloneAt_27 rfl (lv_at hl 0 rfl) ?_
          refine va_get (D := (dC, dI)) (ci := 0) (v := .ref (a 13)) (C := RX0) (T := TX0) (N := 16) hx hb hts hin hown hK hP 0 rfl rfl 13 (by decide) hw2 (fun _ h9 => h9) rfl dX0_mostGivenAloneAt_28 ?_
          refine lv_iload hx hb dX0_mostGivenAloneAt_31 (lv_at hl 4 rfl) ?_
          refine va_iald (f := qgi) hx hb hK hP 8 0 rfl rfl (vp_in_nI (by omega) (by decide)) dX0_mostGivenAloneAt_33 ?_
          refine lv_iload_n hx hb dX0_mostGivenAloneAt_34 rfl (lv_at hl 3 rfl) ?_
          refine lv_icmp_lt (tgt := 49) hx hb dX0_mostGivenAloneAt_35 (by decide) (fun c35 => ?_) (fun c35 => ?_)
          · refine lv_iinc (v := (nI (k + 1))) (lv' := [(4, .int (nI (k + 1))), (0, .ref h), (1, .int f), (2, .int fo), (3, .int mo)]) hx hb dX0_mostGivenAloneAt_49 hl (k := 4) rfl (nI_1 k) (by decide) rfl (fun ls hl => ?_)
            refine lv_goto (tgt := 7) hx hb dX0_mostGivenAloneAt_52 (by decide) ?_
            exact ih (k + 1) fo mo (by omega) (by rw [← hR, X0_mostGivenAloneAt_L7, if_pos c24, if_pos c35])  H locs ls hP hD hS (lv_sub hl [1, 2, 3, 4, 0] rfl)
          · refine lv_iload hx hb dX0_mostGivenAloneAt_38 (lv_at hl 4 rfl) ?_
            refine lv_istore_n (lv' := [(2, .int (nI k)), (0, .ref h), (1, .int f), (3, .int mo), (4, .int (nI k))]) hx hb dX0_mostGivenAloneAt_40 rfl hl (by decide) rfl (fun ls hl => ?_)
            refine lv_aload_n hx hb dX0_mostGivenAloneAt_41 rfl (lv_at hl 1 rfl) ?_
            refine va_get (D := (dC, dI)) (ci := 0) (v := .ref (a 13)) (C := RX0) (T := TX0) (N := 16) hx hb hts hin hown hK hP 0 rfl rfl 13 (by decide) hw2 (fun _ h9 => h9) rfl dX0_mostGivenAloneAt_42 ?_
            refine lv_iload hx hb dX0_mostGivenAloneAt_45 (lv_at hl 4 rfl) ?_
            refine va_iald (f := qgi) hx hb hK hP 8 0 rfl rfl (vp_in_nI (by omega) (by decide)) dX0_mostGivenAloneAt_47 ?_
            refine lv_istore_n (lv' := [(3, .int (qgi (nI k).toNatClampNeg)), (2, .int (nI k)), (0, .ref h), (1, .int f), (4, .int (nI k))]) hx hb dX0_mostGivenAloneAt_48 rfl hl (by decide) rfl (fun ls hl => ?_)
            refine lv_iinc (v := (nI (k + 1))) (lv' := [(4, .int (nI (k + 1))), (3, .int (qgi (nI k).toNatClampNeg)), (2, .int (nI k)), (0, .ref h), (1, .int f)]) hx hb dX0_mostGivenAloneAt_49 hl (k := 4) rfl (nI_1 k) (by decide) rfl (fun ls hl => ?_)
            refine lv_goto (tgt := 7) hx hb dX0_mostGivenAloneAt_52 (by decide) ?_
            exact ih (k + 1) (nI k) (qgi (nI k).toNatClampNeg) (by omega) (by rw [← hR, X0_mostGivenAloneAt_L7, if_pos c24, if_neg c35])  H locs ls hP hD hS (lv_sub hl [3, 4, 2, 1, 0] rfl)
    exact loop7 n 0 (-1) 1 (by omega) rfl  H locs ls hP hD hS (lv_sub hl [3, 4, 2, 1, 0] rfl)
  exact hW _ _ hP hD hS
def X0_givenAtAllPhases_L4 (qph : AR) (qgi : AR) (n : Nat) : Nat → Nat → Int32 → Int32
  | 0, k, su => su
  | j + 1, k, su => (if (qph (nI k).toNatClampNeg) = 3 then X0_givenAtAllPhases_L4 qph qgi n  j (k + 1) (su + (qgi (nI k).toNatClampNeg)) else X0_givenAtAllPhases_L4 qph qgi n  j (k + 1) su)
def X0_givenAtAllPhases (qph : AR) (qgi : AR) (n : Nat) : Int32 := ((X0_givenAtAllPhases_L4 qph qgi n  n 0 0))
abbrev rmX0_givenAtAllPhases : Room := { frames := 0, cells := 0, slots := 0, locals := 0 }
theorem hd_X0_givenAtAllPhases : yX0_givenAtAllPhases.cls = RX0 ∧ yX0_givenAtAllPhases.cls ≠ "java/lang/invoke/MethodHandle" ∧ yX0_givenAtAllPhases.cls ≠ "java/lang/invoke/VarHandle" ∧ (parseMethodDescriptor yX0_givenAtAllPhases.desc).map (fun d => d.parameters.length) = some 0 := by decide +kernel
set_option maxHeartbeats 4000000 in
set_option maxRecDepth 100000 in
theorem c_X0_givenAtAllPhases (l : Launch) (dC : Nat → ClassId) (dI : Nat → Nat → Nat) (cI cZ : ClassId) (h : Nat) (a : Nat → Nat) (qph : AR) (qgr : AR) (qne : AR) (qap : AR) (qle : AR) (qfu : AR) (qpc : Int32) (qgd : Int32) (qri : Int32) (qnw : Int32) (qtk : Int32) (qsv : Int32) (qwa : AR) (qgi : AR) (qlo : AR) (qtu : AR) (n : Nat) (hpc : qpc = nI n) (hn : n ≤ 8) : Ki l yX0_givenAtAllPhases wsX0_givenAtAllPhases rmX0_givenAtAllPhases dC dI cI cZ [.ref h] (xW cI cZ h a qph qgr qne qap qle qfu qpc qgd qri qnw qtk qsv qwa qgi qlo qtu) (xW cI cZ h a qph qgr qne qap qle qfu qpc qgd qri qnw qtk qsv qwa qgi qlo qtu) (X0_givenAtAllPhases qph qgi n) := by
  refine k_enter_i (cc := cX0_givenAtAllPhases) (maxL := 3) (ret := some .int) (by decide) rfl (Nat.le_of_ble_eq_true rfl) ?_
  intro p e s m below meth c A ls hC hr hlocks hK hP hD hS hA hl
  generalize List.toArray _ = args at hC ⊢
  obtain ⟨hx, hb, hml, hown, hts⟩ := id hC
  have hret : ∀ (H : Heap) (locs : List Loc) (pc : Nat) (ls : Array Slot) (r : Int32), va_S A s.heap H locs → va_P (dC, dI) vwCl (xW cI cZ h a qph qgr qne qap qle qfu qpc qgd qri qnw qtk qsv qwa qgi qlo qtu) H → va_D A (xW cI cZ h a qph qgr qne qap qle qfu qpc qgd qri qnw qtk qsv qwa qgi qlo qtu) → r = (X0_givenAtAllPhases qph qgi n) → decode cX0_givenAtAllPhases pc = .ok (.ireturn, 1) → W p l e rmX0_givenAtAllPhases s m args below meth c H locs 0 0 (MQ below (va_Qi (fun r (_ : Unit) => r = (X0_givenAtAllPhases qph qgi n)) (kBeh dC dI A (xW cI cZ h a qph qgr qne qap qle qfu qpc qgd qri qnw qtk qsv qwa qgi qlo qtu)) A) args s 0 0 A) (F0 m pc ls [.int r]) := fun H locs pc ls r hS hP hD hv d => k_iret hx hb hr hlocks hS hP hD hv d
  generalize MQ below _ _ _ _ _ _ = Q at hret ⊢
  have hin : ∀ w ∈ wsX00, w ∈ wsX0_givenAtAllPhases := by decide +kernel
  have hw0 := hts (.fieldLink RX0 55 "ChargePark" "pointCount" "I") (by decide +kernel)
  have hw1 := hts (.fieldLink RX0 9 "ChargePark" "phaseOf" "[I") (by decide +kernel)
  have hw2 := hts (.fieldLink RX0 28 "ChargePark" "given" "[I") (by decide +kernel)
  have hl : lv_has ls 3 [(0, .ref h)] := hl
  have hP : va_P (dC, dI) vwCl (xW cI cZ h a qph qgr qne qap qle qfu qpc qgd qri qnw qtk qsv qwa qgi qlo qtu) s.heap := hP
  have hW : ∀ (H : Heap) (locs : List Loc), va_P (dC, dI) vwCl (xW cI cZ h a qph qgr qne qap qle qfu qpc qgd qri qnw qtk qsv qwa qgi qlo qtu) H → va_D A (xW cI cZ h a qph qgr qne qap qle qfu qpc qgd qri qnw qtk qsv qwa qgi qlo qtu) → va_S A s.heap H locs → W p l e rmX0_givenAtAllPhases s m args below meth c H locs 0 0 Q (F0 m 0 ls []) := by
    intro H locs hP hD hS
    refine lv_iconst (v := 0) hx hb dX0_givenAtAllPhases_0 (by decide) ?_
    refine lv_istore_n (lv' := [(1, .int 0), (0, .ref h)]) hx hb dX0_givenAtAllPhases_1 rfl hl (by decide) rfl (fun ls hl => ?_)
    refine lv_iconst (v := 0) hx hb dX0_givenAtAllPhases_2 (by decide) ?_
    refine lv_istore_n (lv' := [(2, .int 0), (1, .int 0), (0, .ref h)]) hx hb dX0_givenAtAllPhases_3 rfl hl (by decide) rfl (fun ls hl => ?_)
    have cont4 : ∀ (z1 : Int32), z1 = (X0_givenAtAllPhases_L4 qph qgi n  n 0 0) → ∀ (H : Heap) (locs : List Loc) (ls : Array Slot), va_P (dC, dI) vwCl (xW cI cZ h a qph qgr qne qap qle qfu qpc qgd qri qnw qtk qsv qwa qgi qlo qtu) H → va_D A (xW cI cZ h a qph qgr qne qap qle qfu qpc qgd qri qnw qtk qsv qwa qgi qlo qtu) → va_S A s.heap H locs → lv_has ls 3 [(0, .ref h), (1, .int z1)] → W p l e rmX0_givenAtAllPhases s m args below meth c H locs 0 0 Q (F0 m 37 ls []) := by
      intro z1 hz1 H locs ls hP hD hS hl
      refine lv_iload_n hx hb dX0_givenAtAllPhases_37 rfl (lv_at hl 1 rfl) ?_
      subst hz1
      exact hret H locs 38 ls ((X0_givenAtAllPhases_L4 qph qgi n  n 0 0)) hS hP hD (by rw [X0_givenAtAllPhases]) dX0_givenAtAllPhases_38
    have loop4 : ∀ (j k : Nat) (su : Int32), k + j = n → X0_givenAtAllPhases_L4 qph qgi n  j k su = (X0_givenAtAllPhases_L4 qph qgi n  n 0 0) → ∀ (H : Heap) (locs : List Loc) (ls : Array Slot), va_P (dC, dI) vwCl (xW cI cZ h a qph qgr qne qap qle qfu qpc qgd qri qnw qtk qsv qwa qgi qlo qtu) H → va_D A (xW cI cZ h a qph qgr qne qap qle qfu qpc qgd qri qnw qtk qsv qwa qgi qlo qtu) → va_S A s.heap H locs → lv_has ls 3 [(0, .ref h), (1, .int su), (2, .int (nI k))] → W p l e rmX0_givenAtAllPhases s m args below meth c H locs 0 0 Q (F0 m 4 ls []) := by
      intro j
      induction j with
      | zero =>
        intro k su hk hR  H locs ls hP hD hS hl
        refine lv_iload_n hx hb dX0_givenAtAllPhases_4 rfl (lv_at hl 2 rfl) ?_
        refine lv_aload_n hx hb dX0_givenAtAllPhases_5 rfl (lv_at hl 0 rfl) ?_
        refine va_get (D := (dC, dI)) (ci := 0) (v := .int qpc) (C := RX0) (T := TX0) (N := 16) hx hb hts hin hown hK hP 0 rfl rfl 6 (by decide) hw0 (fun _ h9 => h9) rfl dX0_givenAtAllPhases_6 ?_
        refine lv_icmp_ge (tgt := 37) hx hb dX0_givenAtAllPhases_9 (by decide) (fun _ => ?_) (fun c => absurd (by rw [hpc]; exact nI_le (by omega) (by omega)) c)
        exact cont4 su (by rw [← hR, X0_givenAtAllPhases_L4]) H locs ls hP hD hS (lv_sub hl [0, 1] rfl)
      | succ j ih =>
        intro k su hk hR  H locs ls hP hD hS hl
        refine lv_iload_n hx hb dX0_givenAtAllPhases_4 rfl (lv_at hl 2 rfl) ?_
        refine lv_aload_n hx hb dX0_givenAtAllPhases_5 rfl (lv_at hl 0 rfl) ?_
        refine va_get (D := (dC, dI)) (ci := 0) (v := .int qpc) (C := RX0) (T := TX0) (N := 16) hx hb hts hin hown hK hP 0 rfl rfl 6 (by decide) hw0 (fun _ h9 => h9) rfl dX0_givenAtAllPhases_6 ?_
        refine lv_icmp_ge (tgt := 37) hx hb dX0_givenAtAllPhases_9 (by decide) (fun c => absurd c (by rw [hpc]; exact nI_ge (by omega) (by omega))) (fun _ => ?_)
        refine lv_aload_n hx hb dX0_givenAtAllPhases_12 rfl (lv_at hl 0 rfl) ?_
        refine va_get (D := (dC, dI)) (ci := 0) (v := .ref (a 0)) (C := RX0) (T := TX0) (N := 16) hx hb hts hin hown hK hP 0 rfl rfl 0 (by decide) hw1 (fun _ h9 => h9) rfl dX0_givenAtAllPhases_13 ?_
        refine lv_iload_n hx hb dX0_givenAtAllPhases_16 rfl (lv_at hl 2 rfl) ?_
        refine va_iald (f := qph) hx hb hK hP 1 0 rfl rfl (vp_in_nI (by omega) (by decide)) dX0_givenAtAllPhases_17 ?_
        refine lv_iconst (v := 3) hx hb dX0_givenAtAllPhases_18 (by decide) ?_
        refine lv_icmp_ne (tgt := 31) hx hb dX0_givenAtAllPhases_19 (by decide) (fun c19 => ?_) (fun c19 => ?_)
        · refine lv_iinc (v := (nI (k + 1))) (lv' := [(2, .int (nI (k + 1))), (0, .ref h), (1, .int su)]) hx hb dX0_givenAtAllPhases_31 hl (k := 2) rfl (nI_1 k) (by decide) rfl (fun ls hl => ?_)
          refine lv_goto (tgt := 4) hx hb dX0_givenAtAllPhases_34 (by decide) ?_
          exact ih (k + 1) su (by omega) (by rw [← hR, X0_givenAtAllPhases_L4, if_neg c19])  H locs ls hP hD hS (lv_sub hl [1, 2, 0] rfl)
        · refine lv_iload_n hx hb dX0_givenAtAllPhases_22 rfl (lv_at hl 1 rfl) ?_
          refine lv_aload_n hx hb dX0_givenAtAllPhases_23 rfl (lv_at hl 0 rfl) ?_
          refine va_get (D := (dC, dI)) (ci := 0) (v := .ref (a 13)) (C := RX0) (T := TX0) (N := 16) hx hb hts hin hown hK hP 0 rfl rfl 13 (by decide) hw2 (fun _ h9 => h9) rfl dX0_givenAtAllPhases_24 ?_
          refine lv_iload_n hx hb dX0_givenAtAllPhases_27 rfl (lv_at hl 2 rfl) ?_
          refine va_iald (f := qgi) hx hb hK hP 8 0 rfl rfl (vp_in_nI (by omega) (by decide)) dX0_givenAtAllPhases_28 ?_
          refine lv_iadd hx hb dX0_givenAtAllPhases_29 ?_
          refine lv_istore_n (lv' := [(1, .int (su + (qgi (nI k).toNatClampNeg))), (0, .ref h), (2, .int (nI k))]) hx hb dX0_givenAtAllPhases_30 rfl hl (by decide) rfl (fun ls hl => ?_)
          refine lv_iinc (v := (nI (k + 1))) (lv' := [(2, .int (nI (k + 1))), (1, .int (su + (qgi (nI k).toNatClampNeg))), (0, .ref h)]) hx hb dX0_givenAtAllPhases_31 hl (k := 2) rfl (nI_1 k) (by decide) rfl (fun ls hl => ?_)
          refine lv_goto (tgt := 4) hx hb dX0_givenAtAllPhases_34 (by decide) ?_
          exact ih (k + 1) (su + (qgi (nI k).toNatClampNeg)) (by omega) (by rw [← hR, X0_givenAtAllPhases_L4, if_pos c19])  H locs ls hP hD hS (lv_sub hl [2, 1, 0] rfl)
    exact loop4 n 0 0 (by omega) rfl  H locs ls hP hD hS (lv_sub hl [2, 1, 0] rfl)
  exact hW _ _ hP hD hS
def X0_usedAtLevel_L5 (qph : AR) (qwa : AR) (n : Nat) (f : Int32) (v : Int32) : Nat → Nat → Int32 → Int32
  | 0, k, su => su
  | j + 1, k, su => (if (qph (nI k).toNatClampNeg) = f then X0_usedAtLevel_L5 qph qwa n f v  j (k + 1) (su + (if v < (qwa (nI k).toNatClampNeg) then v else (qwa (nI k).toNatClampNeg))) else X0_usedAtLevel_L5 qph qwa n f v  j (k + 1) su)
def X0_usedAtLevel (qph : AR) (qwa : AR) (n : Nat) (f : Int32) (v : Int32) : Int32 := ((X0_usedAtLevel_L5 qph qwa n f v  n 0 0))
abbrev rmX0_usedAtLevel : Room := { frames := 1, cells := 0, slots := 0, locals := 14 }
theorem hd_X0_usedAtLevel : yX0_usedAtLevel.cls = RX0 ∧ yX0_usedAtLevel.cls ≠ "java/lang/invoke/MethodHandle" ∧ yX0_usedAtLevel.cls ≠ "java/lang/invoke/VarHandle" ∧ (parseMethodDescriptor yX0_usedAtLevel.desc).map (fun d => d.parameters.length) = some 2 := by decide +kernel
set_option maxHeartbeats 4000000 in
set_option maxRecDepth 100000 in
theorem c_X0_usedAtLevel (l : Launch) (dC : Nat → ClassId) (dI : Nat → Nat → Nat) (cI cZ : ClassId) (h : Nat) (a : Nat → Nat) (qph : AR) (qgr : AR) (qne : AR) (qap : AR) (qle : AR) (qfu : AR) (qpc : Int32) (qgd : Int32) (qri : Int32) (qnw : Int32) (qtk : Int32) (qsv : Int32) (qwa : AR) (qgi : AR) (qlo : AR) (qtu : AR) (n : Nat) (f : Int32) (v : Int32) (hpc : qpc = nI n) (hn : n ≤ 8) : Ki l yX0_usedAtLevel wsX0_usedAtLevel rmX0_usedAtLevel dC dI cI cZ [.ref h, .int f, .int v] (xW cI cZ h a qph qgr qne qap qle qfu qpc qgd qri qnw qtk qsv qwa qgi qlo qtu) (xW cI cZ h a qph qgr qne qap qle qfu qpc qgd qri qnw qtk qsv qwa qgi qlo qtu) (X0_usedAtLevel qph qwa n f v) := by
  refine k_enter_i (cc := cX0_usedAtLevel) (maxL := 5) (ret := some .int) (by decide) rfl (Nat.le_of_ble_eq_true rfl) ?_
  intro p e s m below meth c A ls hC hr hlocks hK hP hD hS hA hl
  generalize List.toArray _ = args at hC ⊢
  obtain ⟨hx, hb, hml, hown, hts⟩ := id hC
  have hret : ∀ (H : Heap) (locs : List Loc) (pc : Nat) (ls : Array Slot) (r : Int32), va_S A s.heap H locs → va_P (dC, dI) vwCl (xW cI cZ h a qph qgr qne qap qle qfu qpc qgd qri qnw qtk qsv qwa qgi qlo qtu) H → va_D A (xW cI cZ h a qph qgr qne qap qle qfu qpc qgd qri qnw qtk qsv qwa qgi qlo qtu) → r = (X0_usedAtLevel qph qwa n f v) → decode cX0_usedAtLevel pc = .ok (.ireturn, 1) → W p l e rmX0_usedAtLevel s m args below meth c H locs 0 0 (MQ below (va_Qi (fun r (_ : Unit) => r = (X0_usedAtLevel qph qwa n f v)) (kBeh dC dI A (xW cI cZ h a qph qgr qne qap qle qfu qpc qgd qri qnw qtk qsv qwa qgi qlo qtu)) A) args s 0 0 A) (F0 m pc ls [.int r]) := fun H locs pc ls r hS hP hD hv d => k_iret hx hb hr hlocks hS hP hD hv d
  generalize MQ below _ _ _ _ _ _ = Q at hret ⊢
  have hin : ∀ w ∈ wsX00, w ∈ wsX0_usedAtLevel := by decide +kernel
  have hw0 := hts (.fieldLink RX0 55 "ChargePark" "pointCount" "I") (by decide +kernel)
  have hw1 := hts (.fieldLink RX0 9 "ChargePark" "phaseOf" "[I") (by decide +kernel)
  have hw2 := hts (.fieldLink RX0 25 "ChargePark" "wanted" "[I") (by decide +kernel)
  have hw3 := hts (.methodLink RX0 132 Lib.Math.min.name) (by decide +kernel)
  have hw4 := hts (.static Lib.Math.min.name) (by decide +kernel)
  have hw5 := hts (.initialized "java/lang/Math") (by decide +kernel)
  have hw6 := hts (.code Lib.Math.min.name Lib.Math.min.code 2 (some .int)) (by decide +kernel)
  have hl : lv_has ls 5 [(0, .ref h), (1, .int f), (2, .int v)] := hl
  have hP : va_P (dC, dI) vwCl (xW cI cZ h a qph qgr qne qap qle qfu qpc qgd qri qnw qtk qsv qwa qgi qlo qtu) s.heap := hP
  have hW : ∀ (H : Heap) (locs : List Loc), va_P (dC, dI) vwCl (xW cI cZ h a qph qgr qne qap qle qfu qpc qgd qri qnw qtk qsv qwa qgi qlo qtu) H → va_D A (xW cI cZ h a qph qgr qne qap qle qfu qpc qgd qri qnw qtk qsv qwa qgi qlo qtu) → va_S A s.heap H locs → W p l e rmX0_usedAtLevel s m args below meth c H locs 0 0 Q (F0 m 0 ls []) := by
    intro H locs hP hD hS
    refine lv_iconst (v := 0) hx hb dX0_usedAtLevel_0 (by decide) ?_
    refine lv_istore_n (lv' := [(3, .int 0), (0, .ref h), (1, .int f), (2, .int v)]) hx hb dX0_usedAtLevel_1 rfl hl (by decide) rfl (fun ls hl => ?_)
    refine lv_iconst (v := 0) hx hb dX0_usedAtLevel_2 (by decide) ?_
    refine lv_istore (lv' := [(4, .int 0), (3, .int 0), (0, .ref h), (1, .int f), (2, .int v)]) hx hb dX0_usedAtLevel_3 hl (by decide) rfl (fun ls hl => ?_)
    have cont5 : ∀ (z1 : Int32), z1 = (X0_usedAtLevel_L5 qph qwa n f v  n 0 0) → ∀ (H : Heap) (locs : List Loc) (ls : Array Slot), va_P (dC, dI) vwCl (xW cI cZ h a qph qgr qne qap qle qfu qpc qgd qri qnw qtk qsv qwa qgi qlo qtu) H → va_D A (xW cI cZ h a qph qgr qne qap qle qfu qpc qgd qri qnw qtk qsv qwa qgi qlo qtu) → va_S A s.heap H locs → lv_has ls 5 [(0, .ref h), (1, .int f), (2, .int v), (3, .int z1)] → W p l e rmX0_usedAtLevel s m args below meth c H locs 0 0 Q (F0 m 45 ls []) := by
      intro z1 hz1 H locs ls hP hD hS hl
      refine lv_iload_n hx hb dX0_usedAtLevel_45 rfl (lv_at hl 3 rfl) ?_
      subst hz1
      exact hret H locs 46 ls ((X0_usedAtLevel_L5 qph qwa n f v  n 0 0)) hS hP hD (by rw [X0_usedAtLevel]) dX0_usedAtLevel_46
    have loop5 : ∀ (j k : Nat) (su : Int32), k + j = n → X0_usedAtLevel_L5 qph qwa n f v  j k su = (X0_usedAtLevel_L5 qph qwa n f v  n 0 0) → ∀ (H : Heap) (locs : List Loc) (ls : Array Slot), va_P (dC, dI) vwCl (xW cI cZ h a qph qgr qne qap qle qfu qpc qgd qri qnw qtk qsv qwa qgi qlo qtu) H → va_D A (xW cI cZ h a qph qgr qne qap qle qfu qpc qgd qri qnw qtk qsv qwa qgi qlo qtu) → va_S A s.heap H locs → lv_has ls 5 [(0, .ref h), (1, .int f), (2, .int v), (3, .int su), (4, .int (nI k))] → W p l e rmX0_usedAtLevel s m args below meth c H locs 0 0 Q (F0 m 5 ls []) := by
      intro j
      induction j with
      | zero =>
        intro k su hk hR  H locs ls hP hD hS hl
        refine lv_iload hx hb dX0_usedAtLevel_5 (lv_at hl 4 rfl) ?_
        refine lv_aload_n hx hb dX0_usedAtLevel_7 rfl (lv_at hl 0 rfl) ?_
        refine va_get (D := (dC, dI)) (ci := 0) (v := .int qpc) (C := RX0) (T := TX0) (N := 16) hx hb hts hin hown hK hP 0 rfl rfl 6 (by decide) hw0 (fun _ h9 => h9) rfl dX0_usedAtLevel_8 ?_
        refine lv_icmp_ge (tgt := 45) hx hb dX0_usedAtLevel_11 (by decide) (fun _ => ?_) (fun c => absurd (by rw [hpc]; exact nI_le (by omega) (by omega)) c)
        exact cont5 su (by rw [← hR, X0_usedAtLevel_L5]) H locs ls hP hD hS (lv_sub hl [0, 1, 2, 3] rfl)
      | succ j ih =>
        intro k su hk hR  H locs ls hP hD hS hl
        refine lv_iload hx hb dX0_usedAtLevel_5 (lv_at hl 4 rfl) ?_
        refine lv_aload_n hx hb dX0_usedAtLevel_7 rfl (lv_at hl 0 rfl) ?_
        refine va_get (D := (dC, dI)) (ci := 0) (v := .int qpc) (C := RX0) (T := TX0) (N := 16) hx hb hts hin hown hK hP 0 rfl rfl 6 (by decide) hw0 (fun _ h9 => h9) rfl dX0_usedAtLevel_8 ?_
        refine lv_icmp_ge (tgt := 45) hx hb dX0_usedAtLevel_11 (by decide) (fun c => absurd c (by rw [hpc]; exact nI_ge (by omega) (by omega))) (fun _ => ?_)
        refine lv_aload_n hx hb dX0_usedAtLevel_14 rfl (lv_at hl 0 rfl) ?_
        refine va_get (D := (dC, dI)) (ci := 0) (v := .ref (a 0)) (C := RX0) (T := TX0) (N := 16) hx hb hts hin hown hK hP 0 rfl rfl 0 (by decide) hw1 (fun _ h9 => h9) rfl dX0_usedAtLevel_15 ?_
        refine lv_iload hx hb dX0_usedAtLevel_18 (lv_at hl 4 rfl) ?_
        refine va_iald (f := qph) hx hb hK hP 1 0 rfl rfl (vp_in_nI (by omega) (by decide)) dX0_usedAtLevel_20 ?_
        refine lv_iload_n hx hb dX0_usedAtLevel_21 rfl (lv_at hl 1 rfl) ?_
        refine lv_icmp_ne (tgt := 39) hx hb dX0_usedAtLevel_22 (by decide) (fun c22 => ?_) (fun c22 => ?_)
        · refine lv_iinc (v := (nI (k + 1))) (lv' := [(4, .int (nI (k + 1))), (0, .ref h), (1, .int f), (2, .int v), (3, .int su)]) hx hb dX0_usedAtLevel_39 hl (k := 4) rfl (nI_1 k) (by decide) rfl (fun ls hl => ?_)
          refine lv_goto (tgt := 5) hx hb dX0_usedAtLevel_42 (by decide) ?_
          exact ih (k + 1) su (by omega) (by rw [← hR, X0_usedAtLevel_L5, if_neg c22])  H locs ls hP hD hS (lv_sub hl [1, 2, 3, 4, 0] rfl)
        · refine lv_iload_n hx hb dX0_usedAtLevel_25 rfl (lv_at hl 3 rfl) ?_
          refine lv_aload_n hx hb dX0_usedAtLevel_26 rfl (lv_at hl 0 rfl) ?_
          refine va_get (D := (dC, dI)) (ci := 0) (v := .ref (a 12)) (C := RX0) (T := TX0) (N := 16) hx hb hts hin hown hK hP 0 rfl rfl 12 (by decide) hw2 (fun _ h9 => h9) rfl dX0_usedAtLevel_27 ?_
          refine lv_iload hx hb dX0_usedAtLevel_30 (lv_at hl 4 rfl) ?_
          refine va_iald (f := qwa) hx hb hK hP 7 0 rfl rfl (vp_in_nI (by omega) (by decide)) dX0_usedAtLevel_32 ?_
          refine lv_iload_n hx hb dX0_usedAtLevel_33 rfl (lv_at hl 2 rfl) ?_
          refine va_mmin hx hb (hml.trans hl.1.symm) hown hw3 hw4 hw5 hw6 (Nat.le_of_ble_eq_true rfl) (Nat.le_of_ble_eq_true rfl) (Nat.zero_le _) (Nat.zero_le _) dX0_usedAtLevel_34 ?_
          refine lv_iadd hx hb dX0_usedAtLevel_37 ?_
          refine lv_istore_n (lv' := [(3, .int (su + (if v < (qwa (nI k).toNatClampNeg) then v else (qwa (nI k).toNatClampNeg)))), (0, .ref h), (1, .int f), (2, .int v), (4, .int (nI k))]) hx hb dX0_usedAtLevel_38 rfl hl (by decide) rfl (fun ls hl => ?_)
          refine lv_iinc (v := (nI (k + 1))) (lv' := [(4, .int (nI (k + 1))), (3, .int (su + (if v < (qwa (nI k).toNatClampNeg) then v else (qwa (nI k).toNatClampNeg)))), (0, .ref h), (1, .int f), (2, .int v)]) hx hb dX0_usedAtLevel_39 hl (k := 4) rfl (nI_1 k) (by decide) rfl (fun ls hl => ?_)
          refine lv_goto (tgt := 5) hx hb dX0_usedAtLevel_42 (by decide) ?_
          exact ih (k + 1) (su + (if v < (qwa (nI k).toNatClampNeg) then v else (qwa (nI k).toNatClampNeg))) (by omega) (by rw [← hR, X0_usedAtLevel_L5, if_pos c22])  H locs ls hP hD hS (lv_sub hl [2, 3, 4, 1, 0] rfl)
    exact loop5 n 0 0 (by omega) rfl  H locs ls hP hD hS (lv_sub hl [2, 3, 4, 1, 0] rfl)
  exact hW _ _ hP hD hS
def X0_raiseAll_L4 (qph : AR) (qfu : AR) (qwa : AR) (n : Nat) : Nat → Nat → Int32 → AR → AR → Int32 × AR × AR
  | 0, k, ra, vgi, vlo => (ra, vgi, vlo)
  | j + 1, k, ra, vgi, vlo => (if (qwa (nI k).toNatClampNeg) ≤ (vgi (nI k).toNatClampNeg) then X0_raiseAll_L4 qph qfu qwa n  j (k + 1) ra vgi vlo else (if (X0_roomFor qph qfu vlo (nI k)) ≤ 0 then X0_raiseAll_L4 qph qfu qwa n  j (k + 1) ra vgi vlo else X0_raiseAll_L4 qph qfu qwa n  j (k + 1) 1 ((X0_give qph vgi vlo (nI k) 1).1) ((X0_give qph vgi vlo (nI k) 1).2)))
def X0_raiseAll (qph : AR) (qfu : AR) (qwa : AR) (qgi : AR) (qlo : AR) (n : Nat) : Int32 × AR × AR := (((X0_raiseAll_L4 qph qfu qwa n  n 0 0 qgi qlo).1), ((X0_raiseAll_L4 qph qfu qwa n  n 0 0 qgi qlo).2.1), ((X0_raiseAll_L4 qph qfu qwa n  n 0 0 qgi qlo).2.2))
abbrev rmX0_raiseAll : Room := { frames := 2, cells := 0, slots := 0, locals := 45 }
theorem hd_X0_raiseAll : yX0_raiseAll.cls = RX0 ∧ yX0_raiseAll.cls ≠ "java/lang/invoke/MethodHandle" ∧ yX0_raiseAll.cls ≠ "java/lang/invoke/VarHandle" ∧ (parseMethodDescriptor yX0_raiseAll.desc).map (fun d => d.parameters.length) = some 0 := by decide +kernel
theorem X0_raiseAll_z (qph : AR) (qfu : AR) (qwa : AR) (n : Nat) : ∀ (j k : Nat) (ra : Int32) (gi lo : AR), (ra = 0 ∨ ra = 1) → ((X0_raiseAll_L4 qph qfu qwa n j k ra gi lo).1 = 0 ∨ (X0_raiseAll_L4 qph qfu qwa n j k ra gi lo).1 = 1) := by
  intro j
  induction j with
  | zero => intro k ra gi lo h; rw [X0_raiseAll_L4]; exact h
  | succ j ih =>
    intro k ra gi lo h
    rw [X0_raiseAll_L4]
    split
    · exact ih _ _ _ _ h
    · split
      · exact ih _ _ _ _ h
      · exact ih _ _ _ _ (Or.inr rfl)
set_option maxHeartbeats 4000000 in
set_option maxRecDepth 100000 in
theorem c_X0_raiseAll (l : Launch) (dC : Nat → ClassId) (dI : Nat → Nat → Nat) (cI cZ : ClassId) (h : Nat) (a : Nat → Nat) (qph : AR) (qgr : AR) (qne : AR) (qap : AR) (qle : AR) (qfu : AR) (qpc : Int32) (qgd : Int32) (qri : Int32) (qnw : Int32) (qtk : Int32) (qsv : Int32) (qwa : AR) (qgi : AR) (qlo : AR) (qtu : AR) (n : Nat) (hpc : qpc = nI n) (hn : n ≤ 8) : Ki l yX0_raiseAll wsX0_raiseAll rmX0_raiseAll dC dI cI cZ [.ref h] (xW cI cZ h a qph qgr qne qap qle qfu qpc qgd qri qnw qtk qsv qwa qgi qlo qtu) (xW cI cZ h a qph qgr qne qap qle qfu qpc qgd qri qnw qtk qsv qwa ((X0_raiseAll qph qfu qwa qgi qlo n).2.1) ((X0_raiseAll qph qfu qwa qgi qlo n).2.2) qtu) (X0_raiseAll qph qfu qwa qgi qlo n).1 := by
  refine k_enter_i (cc := cX0_raiseAll) (maxL := 3) (ret := some .boolean) (by decide) rfl (Nat.le_of_ble_eq_true rfl) ?_
  intro p e s m below meth c A ls hC hr hlocks hK hP hD hS hA hl
  generalize List.toArray _ = args at hC ⊢
  obtain ⟨hx, hb, hml, hown, hts⟩ := id hC
  have hret : ∀ (H : Heap) (locs : List Loc) (pc : Nat) (ls : Array Slot) (r : Int32), va_S A s.heap H locs → va_P (dC, dI) vwCl (xW cI cZ h a qph qgr qne qap qle qfu qpc qgd qri qnw qtk qsv qwa ((X0_raiseAll qph qfu qwa qgi qlo n).2.1) ((X0_raiseAll qph qfu qwa qgi qlo n).2.2) qtu) H → va_D A (xW cI cZ h a qph qgr qne qap qle qfu qpc qgd qri qnw qtk qsv qwa ((X0_raiseAll qph qfu qwa qgi qlo n).2.1) ((X0_raiseAll qph qfu qwa qgi qlo n).2.2) qtu) → r = (X0_raiseAll qph qfu qwa qgi qlo n).1 → (r = 0 ∨ r = 1) → decode cX0_raiseAll pc = .ok (.ireturn, 1) → W p l e rmX0_raiseAll s m args below meth c H locs 0 0 (MQ below (va_Qi (fun r (_ : Unit) => r = (X0_raiseAll qph qfu qwa qgi qlo n).1) (kBeh dC dI A (xW cI cZ h a qph qgr qne qap qle qfu qpc qgd qri qnw qtk qsv qwa ((X0_raiseAll qph qfu qwa qgi qlo n).2.1) ((X0_raiseAll qph qfu qwa qgi qlo n).2.2) qtu)) A) args s 0 0 A) (F0 m pc ls [.int r]) := fun H locs pc ls r hS hP hD hv hz d => k_zret hx hb hr hlocks hS hP hD hv hz d
  generalize MQ below _ _ _ _ _ _ = Q at hret ⊢
  have hin : ∀ w ∈ wsX00, w ∈ wsX0_raiseAll := by decide +kernel
  have hw0 := hts (.fieldLink RX0 55 "ChargePark" "pointCount" "I") (by decide +kernel)
  have hw1 := hts (.fieldLink RX0 28 "ChargePark" "given" "[I") (by decide +kernel)
  have hw2 := hts (.fieldLink RX0 25 "ChargePark" "wanted" "[I") (by decide +kernel)
  have hl : lv_has ls 3 [(0, .ref h)] := hl
  have hP : va_P (dC, dI) vwCl (xW cI cZ h a qph qgr qne qap qle qfu qpc qgd qri qnw qtk qsv qwa qgi qlo qtu) s.heap := hP
  have hW : ∀ (H : Heap) (locs : List Loc), va_P (dC, dI) vwCl (xW cI cZ h a qph qgr qne qap qle qfu qpc qgd qri qnw qtk qsv qwa qgi qlo qtu) H → va_D A (xW cI cZ h a qph qgr qne qap qle qfu qpc qgd qri qnw qtk qsv qwa qgi qlo qtu) → va_S A s.heap H locs → W p l e rmX0_raiseAll s m args below meth c H locs 0 0 Q (F0 m 0 ls []) := by
    intro H locs hP hD hS
    refine lv_iconst (v := 0) hx hb dX0_raiseAll_0 (by decide) ?_
    refine lv_istore_n (lv' := [(1, .int 0), (0, .ref h)]) hx hb dX0_raiseAll_1 rfl hl (by decide) rfl (fun ls hl => ?_)
    refine lv_iconst (v := 0) hx hb dX0_raiseAll_2 (by decide) ?_
    refine lv_istore_n (lv' := [(2, .int 0), (1, .int 0), (0, .ref h)]) hx hb dX0_raiseAll_3 rfl hl (by decide) rfl (fun ls hl => ?_)
    have cont4 : ∀ (z1 : Int32), z1 = (X0_raiseAll_L4 qph qfu qwa n  n 0 0 qgi qlo).1 → ∀ (z2 : AR), z2 = (X0_raiseAll_L4 qph qfu qwa n  n 0 0 qgi qlo).2.1 → ∀ (z3 : AR), z3 = (X0_raiseAll_L4 qph qfu qwa n  n 0 0 qgi qlo).2.2 → ∀ (H : Heap) (locs : List Loc) (ls : Array Slot), va_P (dC, dI) vwCl (xW cI cZ h a qph qgr qne qap qle qfu qpc qgd qri qnw qtk qsv qwa z2 z3 qtu) H → va_D A (xW cI cZ h a qph qgr qne qap qle qfu qpc qgd qri qnw qtk qsv qwa z2 z3 qtu) → va_S A s.heap H locs → lv_has ls 3 [(0, .ref h), (1, .int z1)] → W p l e rmX0_raiseAll s m args below meth c H locs 0 0 Q (F0 m 49 ls []) := by
      intro z1 hz1 z2 hz2 z3 hz3 H locs ls hP hD hS hl
      refine lv_iload_n hx hb dX0_raiseAll_49 rfl (lv_at hl 1 rfl) ?_
      subst hz1 hz2 hz3
      have hP : va_P (dC, dI) vwCl (xW cI cZ h a qph qgr qne qap qle qfu qpc qgd qri qnw qtk qsv qwa ((X0_raiseAll qph qfu qwa qgi qlo n).2.1) ((X0_raiseAll qph qfu qwa qgi qlo n).2.2) qtu) H := by rw [X0_raiseAll]; exact hP
      have hD : va_D A (xW cI cZ h a qph qgr qne qap qle qfu qpc qgd qri qnw qtk qsv qwa ((X0_raiseAll qph qfu qwa qgi qlo n).2.1) ((X0_raiseAll qph qfu qwa qgi qlo n).2.2) qtu) := by rw [X0_raiseAll]; exact hD
      exact hret H locs 50 ls ((X0_raiseAll_L4 qph qfu qwa n  n 0 0 qgi qlo).1) hS hP hD (by rw [X0_raiseAll]) (X0_raiseAll_z qph qfu qwa n n 0 0 qgi qlo (Or.inl rfl)) dX0_raiseAll_50
    have loop4 : ∀ (j k : Nat) (ra : Int32) (vgi : AR) (vlo : AR), k + j = n → X0_raiseAll_L4 qph qfu qwa n  j k ra vgi vlo = (X0_raiseAll_L4 qph qfu qwa n  n 0 0 qgi qlo) → ∀ (H : Heap) (locs : List Loc) (ls : Array Slot), va_P (dC, dI) vwCl (xW cI cZ h a qph qgr qne qap qle qfu qpc qgd qri qnw qtk qsv qwa vgi vlo qtu) H → va_D A (xW cI cZ h a qph qgr qne qap qle qfu qpc qgd qri qnw qtk qsv qwa vgi vlo qtu) → va_S A s.heap H locs → lv_has ls 3 [(0, .ref h), (1, .int ra), (2, .int (nI k))] → W p l e rmX0_raiseAll s m args below meth c H locs 0 0 Q (F0 m 4 ls []) := by
      intro j
      induction j with
      | zero =>
        intro k ra vgi vlo hk hR  H locs ls hP hD hS hl
        refine lv_iload_n hx hb dX0_raiseAll_4 rfl (lv_at hl 2 rfl) ?_
        refine lv_aload_n hx hb dX0_raiseAll_5 rfl (lv_at hl 0 rfl) ?_
        refine va_get (D := (dC, dI)) (ci := 0) (v := .int qpc) (C := RX0) (T := TX0) (N := 16) hx hb hts hin hown hK hP 0 rfl rfl 6 (by decide) hw0 (fun _ h9 => h9) rfl dX0_raiseAll_6 ?_
        refine lv_icmp_ge (tgt := 49) hx hb dX0_raiseAll_9 (by decide) (fun _ => ?_) (fun c => absurd (by rw [hpc]; exact nI_le (by omega) (by omega)) c)
        exact cont4 ra (by rw [← hR, X0_raiseAll_L4]) vgi (by rw [← hR, X0_raiseAll_L4]) vlo (by rw [← hR, X0_raiseAll_L4]) H locs ls hP hD hS (lv_sub hl [0, 1] rfl)
      | succ j ih =>
        intro k ra vgi vlo hk hR  H locs ls hP hD hS hl
        refine lv_iload_n hx hb dX0_raiseAll_4 rfl (lv_at hl 2 rfl) ?_
        refine lv_aload_n hx hb dX0_raiseAll_5 rfl (lv_at hl 0 rfl) ?_
        refine va_get (D := (dC, dI)) (ci := 0) (v := .int qpc) (C := RX0) (T := TX0) (N := 16) hx hb hts hin hown hK hP 0 rfl rfl 6 (by decide) hw0 (fun _ h9 => h9) rfl dX0_raiseAll_6 ?_
        refine lv_icmp_ge (tgt := 49) hx hb dX0_raiseAll_9 (by decide) (fun c => absurd c (by rw [hpc]; exact nI_ge (by omega) (by omega))) (fun _ => ?_)
        refine lv_aload_n hx hb dX0_raiseAll_12 rfl (lv_at hl 0 rfl) ?_
        refine va_get (D := (dC, dI)) (ci := 0) (v := .ref (a 13)) (C := RX0) (T := TX0) (N := 16) hx hb hts hin hown hK hP 0 rfl rfl 13 (by decide) hw1 (fun _ h9 => h9) rfl dX0_raiseAll_13 ?_
        refine lv_iload_n hx hb dX0_raiseAll_16 rfl (lv_at hl 2 rfl) ?_
        refine va_iald (f := vgi) hx hb hK hP 8 0 rfl rfl (vp_in_nI (by omega) (by decide)) dX0_raiseAll_17 ?_
        refine lv_aload_n hx hb dX0_raiseAll_18 rfl (lv_at hl 0 rfl) ?_
        refine va_get (D := (dC, dI)) (ci := 0) (v := .ref (a 12)) (C := RX0) (T := TX0) (N := 16) hx hb hts hin hown hK hP 0 rfl rfl 12 (by decide) hw2 (fun _ h9 => h9) rfl dX0_raiseAll_19 ?_
        refine lv_iload_n hx hb dX0_raiseAll_22 rfl (lv_at hl 2 rfl) ?_
        refine va_iald (f := qwa) hx hb hK hP 7 0 rfl rfl (vp_in_nI (by omega) (by decide)) dX0_raiseAll_23 ?_
        refine lv_icmp_ge (tgt := 43) hx hb dX0_raiseAll_24 (by decide) (fun c24 => ?_) (fun c24 => ?_)
        · refine lv_iinc (v := (nI (k + 1))) (lv' := [(2, .int (nI (k + 1))), (0, .ref h), (1, .int ra)]) hx hb dX0_raiseAll_43 hl (k := 2) rfl (nI_1 k) (by decide) rfl (fun ls hl => ?_)
          refine lv_goto (tgt := 4) hx hb dX0_raiseAll_46 (by decide) ?_
          exact ih (k + 1) ra vgi vlo (by omega) (by rw [← hR, X0_raiseAll_L4, if_pos c24])  H locs ls hP hD hS (lv_sub hl [1, 2, 0] rfl)
        · refine lv_aload_n hx hb dX0_raiseAll_27 rfl (lv_at hl 0 rfl) ?_
          refine lv_iload_n hx hb dX0_raiseAll_28 rfl (lv_at hl 2 rfl) ?_
          refine k_calli (rest := []) (q0 := 0) hC (c_X0_roomFor l dC dI cI cZ h a qph qgr qne qap qle qfu qpc qgd qri qnw qtk qsv qwa vgi vlo qtu  (nI k) (vp_in_nI (by omega) (by decide))) (cwV 1 hts gX0_raiseAll_X0_roomFor rfl rfl rfl hd_X0_roomFor ⟨Nat.le_of_ble_eq_true rfl, Nat.le_of_ble_eq_true rfl⟩) hK hP hD hS hA rfl rfl rfl hl.1 (Nat.le_of_ble_eq_true rfl) dX0_raiseAll_29 rfl ⟨Nat.zero_le _, Nat.zero_le _⟩ (fun H locs hP hD hS => ?_)
          refine lv_if_le (tgt := 43) hx hb dX0_raiseAll_32 (by decide) (fun c32 => ?_) (fun c32 => ?_)
          · refine lv_iinc (v := (nI (k + 1))) (lv' := [(2, .int (nI (k + 1))), (0, .ref h), (1, .int ra)]) hx hb dX0_raiseAll_43 hl (k := 2) rfl (nI_1 k) (by decide) rfl (fun ls hl => ?_)
            refine lv_goto (tgt := 4) hx hb dX0_raiseAll_46 (by decide) ?_
            exact ih (k + 1) ra vgi vlo (by omega) (by rw [← hR, X0_raiseAll_L4, if_neg c24, if_pos c32])  H locs ls hP hD hS (lv_sub hl [1, 2, 0] rfl)
          · refine lv_aload_n hx hb dX0_raiseAll_35 rfl (lv_at hl 0 rfl) ?_
            refine lv_iload_n hx hb dX0_raiseAll_36 rfl (lv_at hl 2 rfl) ?_
            refine lv_iconst (v := 1) hx hb dX0_raiseAll_37 (by decide) ?_
            refine k_callv (rest := []) (q0 := 0) hC (c_X0_give l dC dI cI cZ h a qph qgr qne qap qle qfu qpc qgd qri qnw qtk qsv qwa vgi vlo qtu  (nI k) 1 (vp_in_nI (by omega) (by decide))) (cwV 2 hts gX0_raiseAll_X0_give rfl rfl rfl hd_X0_give ⟨Nat.le_of_ble_eq_true rfl, Nat.le_of_ble_eq_true rfl⟩) hK hP hD hS hA rfl rfl rfl hl.1 (Nat.le_of_ble_eq_true rfl) dX0_raiseAll_38 rfl ⟨Nat.zero_le _, Nat.zero_le _⟩ (fun H locs hP hD hS => ?_)
            obtain ⟨z4, hz4⟩ : ∃ z : AR, z = ((X0_give qph vgi vlo (nI k) 1).1) := ⟨_, rfl⟩
            rw [← hz4] at hP hD
            obtain ⟨z5, hz5⟩ : ∃ z : AR, z = ((X0_give qph vgi vlo (nI k) 1).2) := ⟨_, rfl⟩
            rw [← hz5] at hP hD
            have hP : va_P (dC, dI) vwCl (xW cI cZ h a qph qgr qne qap qle qfu qpc qgd qri qnw qtk qsv qwa z4 z5 qtu) H := hP
            have hD : va_D A (xW cI cZ h a qph qgr qne qap qle qfu qpc qgd qri qnw qtk qsv qwa z4 z5 qtu) := hD
            refine lv_iconst (v := 1) hx hb dX0_raiseAll_41 (by decide) ?_
            refine lv_istore_n (lv' := [(1, .int 1), (0, .ref h), (2, .int (nI k))]) hx hb dX0_raiseAll_42 rfl hl (by decide) rfl (fun ls hl => ?_)
            refine lv_iinc (v := (nI (k + 1))) (lv' := [(2, .int (nI (k + 1))), (1, .int 1), (0, .ref h)]) hx hb dX0_raiseAll_43 hl (k := 2) rfl (nI_1 k) (by decide) rfl (fun ls hl => ?_)
            refine lv_goto (tgt := 4) hx hb dX0_raiseAll_46 (by decide) ?_
            subst hz4 hz5
            exact ih (k + 1) 1 ((X0_give qph vgi vlo (nI k) 1).1) ((X0_give qph vgi vlo (nI k) 1).2) (by omega) (by rw [← hR, X0_raiseAll_L4, if_neg c24, if_neg c32])  H locs ls hP hD hS (lv_sub hl [2, 1, 0] rfl)
    exact loop4 n 0 0 qgi qlo (by omega) rfl  H locs ls hP hD hS (lv_sub hl [2, 1, 0] rfl)
  exact hW _ _ hP hD hS
def X0_shareFairly_L4 (qph : AR) (qfu : AR) (qwa : AR) (n : Nat) : Nat → Nat → Int32 → AR → AR → Int32 × AR × AR
  | 0, k, ra, vgi, vlo => (if ra = 0 then (ra, vgi, vlo) else (ra, vgi, vlo))
  | j + 1, k, ra, vgi, vlo => (if ra = 0 then (ra, vgi, vlo) else X0_shareFairly_L4 qph qfu qwa n  j (k + 1) ((X0_raiseAll qph qfu qwa vgi vlo n).1) ((X0_raiseAll qph qfu qwa vgi vlo n).2.1) ((X0_raiseAll qph qfu qwa vgi vlo n).2.2))
def X0_shareFairly (qph : AR) (qfu : AR) (qwa : AR) (qgi : AR) (qlo : AR) (n : Nat) : AR × AR := (((X0_shareFairly_L4 qph qfu qwa n  32 0 1 qgi qlo).2.1), ((X0_shareFairly_L4 qph qfu qwa n  32 0 1 qgi qlo).2.2))
abbrev rmX0_shareFairly : Room := { frames := 3, cells := 0, slots := 0, locals := 67 }
theorem hd_X0_shareFairly : yX0_shareFairly.cls = RX0 ∧ yX0_shareFairly.cls ≠ "java/lang/invoke/MethodHandle" ∧ yX0_shareFairly.cls ≠ "java/lang/invoke/VarHandle" ∧ (parseMethodDescriptor yX0_shareFairly.desc).map (fun d => d.parameters.length) = some 0 := by decide +kernel
set_option maxHeartbeats 4000000 in
set_option maxRecDepth 100000 in
theorem c_X0_shareFairly (l : Launch) (dC : Nat → ClassId) (dI : Nat → Nat → Nat) (cI cZ : ClassId) (h : Nat) (a : Nat → Nat) (qph : AR) (qgr : AR) (qne : AR) (qap : AR) (qle : AR) (qfu : AR) (qpc : Int32) (qgd : Int32) (qri : Int32) (qnw : Int32) (qtk : Int32) (qsv : Int32) (qwa : AR) (qgi : AR) (qlo : AR) (qtu : AR) (n : Nat) (hpc : qpc = nI n) (hn : n ≤ 8) : Kv l yX0_shareFairly wsX0_shareFairly rmX0_shareFairly dC dI cI cZ [.ref h] (xW cI cZ h a qph qgr qne qap qle qfu qpc qgd qri qnw qtk qsv qwa qgi qlo qtu) (xW cI cZ h a qph qgr qne qap qle qfu qpc qgd qri qnw qtk qsv qwa ((X0_shareFairly qph qfu qwa qgi qlo n).1) ((X0_shareFairly qph qfu qwa qgi qlo n).2) qtu) := by
  refine k_enter_v (cc := cX0_shareFairly) (maxL := 3) (ret := none) (by decide) rfl (Nat.le_of_ble_eq_true rfl) ?_
  intro p e s m below meth c A ls hC hr hlocks hK hP hD hS hA hl
  generalize List.toArray _ = args at hC ⊢
  obtain ⟨hx, hb, hml, hown, hts⟩ := id hC
  have hret : ∀ (H : Heap) (locs : List Loc) (pc : Nat) (ls : Array Slot), va_S A s.heap H locs → va_P (dC, dI) vwCl (xW cI cZ h a qph qgr qne qap qle qfu qpc qgd qri qnw qtk qsv qwa ((X0_shareFairly qph qfu qwa qgi qlo n).1) ((X0_shareFairly qph qfu qwa qgi qlo n).2) qtu) H → va_D A (xW cI cZ h a qph qgr qne qap qle qfu qpc qgd qri qnw qtk qsv qwa ((X0_shareFairly qph qfu qwa qgi qlo n).1) ((X0_shareFairly qph qfu qwa qgi qlo n).2) qtu) → decode cX0_shareFairly pc = .ok (.return_, 1) → W p l e rmX0_shareFairly s m args below meth c H locs 0 0 (MQ below (va_Qv (fun (_ : Unit) => True) (kBeh dC dI A (xW cI cZ h a qph qgr qne qap qle qfu qpc qgd qri qnw qtk qsv qwa ((X0_shareFairly qph qfu qwa qgi qlo n).1) ((X0_shareFairly qph qfu qwa qgi qlo n).2) qtu)) A) args s 0 0 A) (F0 m pc ls []) := fun H locs pc ls hS hP hD d => k_vret hx hb hr hlocks hS hP hD d
  generalize MQ below _ _ _ _ _ _ = Q at hret ⊢
  have hl : lv_has ls 3 [(0, .ref h)] := hl
  have hP : va_P (dC, dI) vwCl (xW cI cZ h a qph qgr qne qap qle qfu qpc qgd qri qnw qtk qsv qwa qgi qlo qtu) s.heap := hP
  have hW : ∀ (H : Heap) (locs : List Loc), va_P (dC, dI) vwCl (xW cI cZ h a qph qgr qne qap qle qfu qpc qgd qri qnw qtk qsv qwa qgi qlo qtu) H → va_D A (xW cI cZ h a qph qgr qne qap qle qfu qpc qgd qri qnw qtk qsv qwa qgi qlo qtu) → va_S A s.heap H locs → W p l e rmX0_shareFairly s m args below meth c H locs 0 0 Q (F0 m 0 ls []) := by
    intro H locs hP hD hS
    refine lv_iconst (v := 1) hx hb dX0_shareFairly_0 (by decide) ?_
    refine lv_istore_n (lv' := [(1, .int 1), (0, .ref h)]) hx hb dX0_shareFairly_1 rfl hl (by decide) rfl (fun ls hl => ?_)
    refine lv_iconst (v := 0) hx hb dX0_shareFairly_2 (by decide) ?_
    refine lv_istore_n (lv' := [(2, .int 0), (1, .int 1), (0, .ref h)]) hx hb dX0_shareFairly_3 rfl hl (by decide) rfl (fun ls hl => ?_)
    have cont4 : ∀ (z1 : Int32), z1 = (X0_shareFairly_L4 qph qfu qwa n  32 0 1 qgi qlo).1 → ∀ (z2 : AR), z2 = (X0_shareFairly_L4 qph qfu qwa n  32 0 1 qgi qlo).2.1 → ∀ (z3 : AR), z3 = (X0_shareFairly_L4 qph qfu qwa n  32 0 1 qgi qlo).2.2 → ∀ (H : Heap) (locs : List Loc) (ls : Array Slot), va_P (dC, dI) vwCl (xW cI cZ h a qph qgr qne qap qle qfu qpc qgd qri qnw qtk qsv qwa z2 z3 qtu) H → va_D A (xW cI cZ h a qph qgr qne qap qle qfu qpc qgd qri qnw qtk qsv qwa z2 z3 qtu) → va_S A s.heap H locs → lv_has ls 3 [(0, .ref h), (1, .int z1)] → W p l e rmX0_shareFairly s m args below meth c H locs 0 0 Q (F0 m 25 ls []) := by
      intro z1 hz1 z2 hz2 z3 hz3 H locs ls hP hD hS hl
      subst hz1 hz2 hz3
      have hP : va_P (dC, dI) vwCl (xW cI cZ h a qph qgr qne qap qle qfu qpc qgd qri qnw qtk qsv qwa ((X0_shareFairly qph qfu qwa qgi qlo n).1) ((X0_shareFairly qph qfu qwa qgi qlo n).2) qtu) H := by rw [X0_shareFairly]; exact hP
      have hD : va_D A (xW cI cZ h a qph qgr qne qap qle qfu qpc qgd qri qnw qtk qsv qwa ((X0_shareFairly qph qfu qwa qgi qlo n).1) ((X0_shareFairly qph qfu qwa qgi qlo n).2) qtu) := by rw [X0_shareFairly]; exact hD
      exact hret H locs 25 ls hS hP hD dX0_shareFairly_25
    have loop4 : ∀ (j k : Nat) (ra : Int32) (vgi : AR) (vlo : AR), k + j = 32 → X0_shareFairly_L4 qph qfu qwa n  j k ra vgi vlo = (X0_shareFairly_L4 qph qfu qwa n  32 0 1 qgi qlo) → ∀ (H : Heap) (locs : List Loc) (ls : Array Slot), va_P (dC, dI) vwCl (xW cI cZ h a qph qgr qne qap qle qfu qpc qgd qri qnw qtk qsv qwa vgi vlo qtu) H → va_D A (xW cI cZ h a qph qgr qne qap qle qfu qpc qgd qri qnw qtk qsv qwa vgi vlo qtu) → va_S A s.heap H locs → lv_has ls 3 [(0, .ref h), (1, .int ra), (2, .int (nI k))] → W p l e rmX0_shareFairly s m args below meth c H locs 0 0 Q (F0 m 4 ls []) := by
      intro j
      induction j with
      | zero =>
        intro k ra vgi vlo hk hR  H locs ls hP hD hS hl
        refine lv_iload_n hx hb dX0_shareFairly_4 rfl (lv_at hl 1 rfl) ?_
        refine lv_if_eq (tgt := 25) hx hb dX0_shareFairly_5 (by decide) (fun c5 => ?_) (fun c5 => ?_)
        · exact cont4 ra (by rw [← hR, X0_shareFairly_L4, if_pos c5]) vgi (by rw [← hR, X0_shareFairly_L4, if_pos c5]) vlo (by rw [← hR, X0_shareFairly_L4, if_pos c5]) H locs ls hP hD hS (lv_sub hl [0, 1] rfl)
        · refine lv_iload_n hx hb dX0_shareFairly_8 rfl (lv_at hl 2 rfl) ?_
          refine lv_bipush (v := 32) hx hb dX0_shareFairly_9 (by decide) ?_
          refine lv_icmp_ge (tgt := 25) hx hb dX0_shareFairly_11 (by decide) (fun _ => ?_) (fun c => absurd (by rw [nIl32]; exact nI_le (by omega) (by omega)) c)
          exact cont4 ra (by rw [← hR, X0_shareFairly_L4, if_neg c5]) vgi (by rw [← hR, X0_shareFairly_L4, if_neg c5]) vlo (by rw [← hR, X0_shareFairly_L4, if_neg c5]) H locs ls hP hD hS (lv_sub hl [0, 1] rfl)
      | succ j ih =>
        intro k ra vgi vlo hk hR  H locs ls hP hD hS hl
        refine lv_iload_n hx hb dX0_shareFairly_4 rfl (lv_at hl 1 rfl) ?_
        refine lv_if_eq (tgt := 25) hx hb dX0_shareFairly_5 (by decide) (fun c5 => ?_) (fun c5 => ?_)
        · exact cont4 ra (by rw [← hR, X0_shareFairly_L4, if_pos c5]) vgi (by rw [← hR, X0_shareFairly_L4, if_pos c5]) vlo (by rw [← hR, X0_shareFairly_L4, if_pos c5]) H locs ls hP hD hS (lv_sub hl [0, 1] rfl)
        · refine lv_iload_n hx hb dX0_shareFairly_8 rfl (lv_at hl 2 rfl) ?_
          refine lv_bipush (v := 32) hx hb dX0_shareFairly_9 (by decide) ?_
          refine lv_icmp_ge (tgt := 25) hx hb dX0_shareFairly_11 (by decide) (fun c => absurd c (by rw [nIl32]; exact nI_ge (by omega) (by omega))) (fun _ => ?_)
          refine lv_aload_n hx hb dX0_shareFairly_14 rfl (lv_at hl 0 rfl) ?_
          refine k_calli (rest := []) (q0 := 0) hC (c_X0_raiseAll l dC dI cI cZ h a qph qgr qne qap qle qfu qpc qgd qri qnw qtk qsv qwa vgi vlo qtu n  hpc hn) (cwV 0 hts gX0_shareFairly_X0_raiseAll rfl rfl rfl hd_X0_raiseAll ⟨Nat.le_of_ble_eq_true rfl, Nat.le_of_ble_eq_true rfl⟩) hK hP hD hS hA rfl rfl rfl hl.1 (Nat.le_of_ble_eq_true rfl) dX0_shareFairly_15 rfl ⟨Nat.zero_le _, Nat.zero_le _⟩ (fun H locs hP hD hS => ?_)
          obtain ⟨z4, hz4⟩ : ∃ z : AR, z = ((X0_raiseAll qph qfu qwa vgi vlo n).2.1) := ⟨_, rfl⟩
          rw [← hz4] at hP hD
          obtain ⟨z5, hz5⟩ : ∃ z : AR, z = ((X0_raiseAll qph qfu qwa vgi vlo n).2.2) := ⟨_, rfl⟩
          rw [← hz5] at hP hD
          have hP : va_P (dC, dI) vwCl (xW cI cZ h a qph qgr qne qap qle qfu qpc qgd qri qnw qtk qsv qwa z4 z5 qtu) H := hP
          have hD : va_D A (xW cI cZ h a qph qgr qne qap qle qfu qpc qgd qri qnw qtk qsv qwa z4 z5 qtu) := hD
          refine lv_istore_n (lv' := [(1, .int ((X0_raiseAll qph qfu qwa vgi vlo n).1)), (0, .ref h), (2, .int (nI k))]) hx hb dX0_shareFairly_18 rfl hl (by decide) rfl (fun ls hl => ?_)
          refine lv_iinc (v := (nI (k + 1))) (lv' := [(2, .int (nI (k + 1))), (1, .int ((X0_raiseAll qph qfu qwa vgi vlo n).1)), (0, .ref h)]) hx hb dX0_shareFairly_19 hl (k := 2) rfl (nI_1 k) (by decide) rfl (fun ls hl => ?_)
          refine lv_goto (tgt := 4) hx hb dX0_shareFairly_22 (by decide) ?_
          subst hz4 hz5
          exact ih (k + 1) ((X0_raiseAll qph qfu qwa vgi vlo n).1) ((X0_raiseAll qph qfu qwa vgi vlo n).2.1) ((X0_raiseAll qph qfu qwa vgi vlo n).2.2) (by omega) (by rw [← hR, X0_shareFairly_L4, if_neg c5])  H locs ls hP hD hS (lv_sub hl [2, 1, 0] rfl)
    exact loop4 32 0 1 qgi qlo (by omega) rfl  H locs ls hP hD hS (lv_sub hl [2, 1, 0] rfl)
  exact hW _ _ hP hD hS
def X0_shareByLaxity_L4 (qph : AR) (qgr : AR) (qne : AR) (qap : AR) (qle : AR) (qnw : Int32) (qwa : AR) (n : Nat) : Nat → Nat → Nat → AR → Nat × AR
  | 0, k, w, vtu => (w, vtu)
  | j + 1, k, w, vtu => (if (qwa (nI k).toNatClampNeg) ≤ 0 then X0_shareByLaxity_L4 qph qgr qne qap qle qnw qwa n  j (k + 1) w vtu else X0_shareByLaxity_L4 qph qgr qne qap qle qnw qwa n  j (k + 1) (w + 1) ((X0_putIntoTurns qph qgr qne qap qle qnw vtu (nI k) w)))
def X0_shareByLaxity_L38 (qph : AR) (qgr : AR) (qne : AR) (qap : AR) (qle : AR) (qfu : AR) (qnw : Int32) (qwa : AR) (qtu : AR) (n : Nat) : Nat → Nat → AR → AR → AR × AR
  | 0, k, vgi, vlo => (vgi, vlo)
  | j + 1, k, vgi, vlo => X0_shareByLaxity_L38 qph qgr qne qap qle qfu qnw qwa qtu n  j (k + 1) ((X0_give qph vgi vlo (((X0_shareByLaxity_L4 qph qgr qne qap qle qnw qwa n  n 0 0 qtu).2) (nI k).toNatClampNeg) (if (X0_roomFor qph qfu vlo (((X0_shareByLaxity_L4 qph qgr qne qap qle qnw qwa n  n 0 0 qtu).2) (nI k).toNatClampNeg)) < (qwa (((X0_shareByLaxity_L4 qph qgr qne qap qle qnw qwa n  n 0 0 qtu).2) (nI k).toNatClampNeg).toNatClampNeg) then (X0_roomFor qph qfu vlo (((X0_shareByLaxity_L4 qph qgr qne qap qle qnw qwa n  n 0 0 qtu).2) (nI k).toNatClampNeg)) else (qwa (((X0_shareByLaxity_L4 qph qgr qne qap qle qnw qwa n  n 0 0 qtu).2) (nI k).toNatClampNeg).toNatClampNeg))).1) ((X0_give qph vgi vlo (((X0_shareByLaxity_L4 qph qgr qne qap qle qnw qwa n  n 0 0 qtu).2) (nI k).toNatClampNeg) (if (X0_roomFor qph qfu vlo (((X0_shareByLaxity_L4 qph qgr qne qap qle qnw qwa n  n 0 0 qtu).2) (nI k).toNatClampNeg)) < (qwa (((X0_shareByLaxity_L4 qph qgr qne qap qle qnw qwa n  n 0 0 qtu).2) (nI k).toNatClampNeg).toNatClampNeg) then (X0_roomFor qph qfu vlo (((X0_shareByLaxity_L4 qph qgr qne qap qle qnw qwa n  n 0 0 qtu).2) (nI k).toNatClampNeg)) else (qwa (((X0_shareByLaxity_L4 qph qgr qne qap qle qnw qwa n  n 0 0 qtu).2) (nI k).toNatClampNeg).toNatClampNeg))).2)
def X0_shareByLaxity (qph : AR) (qgr : AR) (qne : AR) (qap : AR) (qle : AR) (qfu : AR) (qnw : Int32) (qwa : AR) (qgi : AR) (qlo : AR) (qtu : AR) (n : Nat) : AR × AR × AR := (((X0_shareByLaxity_L38 qph qgr qne qap qle qfu qnw qwa qtu n  ((X0_shareByLaxity_L4 qph qgr qne qap qle qnw qwa n  n 0 0 qtu).1) 0 qgi qlo).1), ((X0_shareByLaxity_L38 qph qgr qne qap qle qfu qnw qwa qtu n  ((X0_shareByLaxity_L4 qph qgr qne qap qle qnw qwa n  n 0 0 qtu).1) 0 qgi qlo).2), ((X0_shareByLaxity_L4 qph qgr qne qap qle qnw qwa n  n 0 0 qtu).2))
abbrev rmX0_shareByLaxity : Room := { frames := 4, cells := 0, slots := 0, locals := 80 }
theorem hd_X0_shareByLaxity : yX0_shareByLaxity.cls = RX0 ∧ yX0_shareByLaxity.cls ≠ "java/lang/invoke/MethodHandle" ∧ yX0_shareByLaxity.cls ≠ "java/lang/invoke/VarHandle" ∧ (parseMethodDescriptor yX0_shareByLaxity.desc).map (fun d => d.parameters.length) = some 0 := by decide +kernel
theorem X0_shareByLaxity_inL (qph : AR) (qgr : AR) (qne : AR) (qap : AR) (qle : AR) (qnw : Int32) (qwa : AR) (n : Nat) (hn : n ≤ 8) : ∀ (j k w : Nat) (tu : AR), k + j = n → w ≤ k → (∀ q, q < w → vp_in (tu q) 8) → (X0_shareByLaxity_L4 qph qgr qne qap qle qnw qwa n j k w tu).1 ≤ n ∧ ∀ q, q < (X0_shareByLaxity_L4 qph qgr qne qap qle qnw qwa n j k w tu).1 → vp_in ((X0_shareByLaxity_L4 qph qgr qne qap qle qnw qwa n j k w tu).2 q) 8 := by
  intro j
  induction j with
  | zero => intro k w tu hk hw h; rw [X0_shareByLaxity_L4]; exact ⟨by show w ≤ n; omega, h⟩
  | succ j ih =>
    intro k w tu hk hw h
    rw [X0_shareByLaxity_L4]
    split
    · exact ih _ _ _ (by omega) (by omega) h
    · exact ih _ _ _ (by omega) (by omega) (X0_putIntoTurns_in _ _ _ _ _ _ tu (nI k) w (vp_in_nI (by omega) (by decide)) (by omega) h)
set_option maxHeartbeats 4000000 in
set_option maxRecDepth 100000 in
theorem c_X0_shareByLaxity (l : Launch) (dC : Nat → ClassId) (dI : Nat → Nat → Nat) (cI cZ : ClassId) (h : Nat) (a : Nat → Nat) (qph : AR) (qgr : AR) (qne : AR) (qap : AR) (qle : AR) (qfu : AR) (qpc : Int32) (qgd : Int32) (qri : Int32) (qnw : Int32) (qtk : Int32) (qsv : Int32) (qwa : AR) (qgi : AR) (qlo : AR) (qtu : AR) (n : Nat) (hpc : qpc = nI n) (hn : n ≤ 8) : Kv l yX0_shareByLaxity wsX0_shareByLaxity rmX0_shareByLaxity dC dI cI cZ [.ref h] (xW cI cZ h a qph qgr qne qap qle qfu qpc qgd qri qnw qtk qsv qwa qgi qlo qtu) (xW cI cZ h a qph qgr qne qap qle qfu qpc qgd qri qnw qtk qsv qwa ((X0_shareByLaxity qph qgr qne qap qle qfu qnw qwa qgi qlo qtu n).1) ((X0_shareByLaxity qph qgr qne qap qle qfu qnw qwa qgi qlo qtu n).2.1) ((X0_shareByLaxity qph qgr qne qap qle qfu qnw qwa qgi qlo qtu n).2.2)) := by
  refine k_enter_v (cc := cX0_shareByLaxity) (maxL := 4) (ret := none) (by decide) rfl (Nat.le_of_ble_eq_true rfl) ?_
  intro p e s m below meth c A ls hC hr hlocks hK hP hD hS hA hl
  generalize List.toArray _ = args at hC ⊢
  obtain ⟨hx, hb, hml, hown, hts⟩ := id hC
  have hret : ∀ (H : Heap) (locs : List Loc) (pc : Nat) (ls : Array Slot), va_S A s.heap H locs → va_P (dC, dI) vwCl (xW cI cZ h a qph qgr qne qap qle qfu qpc qgd qri qnw qtk qsv qwa ((X0_shareByLaxity qph qgr qne qap qle qfu qnw qwa qgi qlo qtu n).1) ((X0_shareByLaxity qph qgr qne qap qle qfu qnw qwa qgi qlo qtu n).2.1) ((X0_shareByLaxity qph qgr qne qap qle qfu qnw qwa qgi qlo qtu n).2.2)) H → va_D A (xW cI cZ h a qph qgr qne qap qle qfu qpc qgd qri qnw qtk qsv qwa ((X0_shareByLaxity qph qgr qne qap qle qfu qnw qwa qgi qlo qtu n).1) ((X0_shareByLaxity qph qgr qne qap qle qfu qnw qwa qgi qlo qtu n).2.1) ((X0_shareByLaxity qph qgr qne qap qle qfu qnw qwa qgi qlo qtu n).2.2)) → decode cX0_shareByLaxity pc = .ok (.return_, 1) → W p l e rmX0_shareByLaxity s m args below meth c H locs 0 0 (MQ below (va_Qv (fun (_ : Unit) => True) (kBeh dC dI A (xW cI cZ h a qph qgr qne qap qle qfu qpc qgd qri qnw qtk qsv qwa ((X0_shareByLaxity qph qgr qne qap qle qfu qnw qwa qgi qlo qtu n).1) ((X0_shareByLaxity qph qgr qne qap qle qfu qnw qwa qgi qlo qtu n).2.1) ((X0_shareByLaxity qph qgr qne qap qle qfu qnw qwa qgi qlo qtu n).2.2))) A) args s 0 0 A) (F0 m pc ls []) := fun H locs pc ls hS hP hD d => k_vret hx hb hr hlocks hS hP hD d
  generalize MQ below _ _ _ _ _ _ = Q at hret ⊢
  have hin : ∀ w ∈ wsX00, w ∈ wsX0_shareByLaxity := by decide +kernel
  have hw0 := hts (.fieldLink RX0 31 "ChargePark" "turns" "[I") (by decide +kernel)
  have hw1 := hts (.fieldLink RX0 25 "ChargePark" "wanted" "[I") (by decide +kernel)
  have hw2 := hts (.methodLink RX0 132 Lib.Math.min.name) (by decide +kernel)
  have hw3 := hts (.static Lib.Math.min.name) (by decide +kernel)
  have hw4 := hts (.initialized "java/lang/Math") (by decide +kernel)
  have hw5 := hts (.code Lib.Math.min.name Lib.Math.min.code 2 (some .int)) (by decide +kernel)
  have hw6 := hts (.fieldLink RX0 55 "ChargePark" "pointCount" "I") (by decide +kernel)
  have hl : lv_has ls 4 [(0, .ref h)] := hl
  have hP : va_P (dC, dI) vwCl (xW cI cZ h a qph qgr qne qap qle qfu qpc qgd qri qnw qtk qsv qwa qgi qlo qtu) s.heap := hP
  have hW : ∀ (H : Heap) (locs : List Loc), va_P (dC, dI) vwCl (xW cI cZ h a qph qgr qne qap qle qfu qpc qgd qri qnw qtk qsv qwa qgi qlo qtu) H → va_D A (xW cI cZ h a qph qgr qne qap qle qfu qpc qgd qri qnw qtk qsv qwa qgi qlo qtu) → va_S A s.heap H locs → W p l e rmX0_shareByLaxity s m args below meth c H locs 0 0 Q (F0 m 0 ls []) := by
    intro H locs hP hD hS
    refine lv_iconst (v := 0) hx hb dX0_shareByLaxity_0 (by decide) ?_
    refine lv_istore_n (lv' := [(1, .int 0), (0, .ref h)]) hx hb dX0_shareByLaxity_1 rfl hl (by decide) rfl (fun ls hl => ?_)
    refine lv_iconst (v := 0) hx hb dX0_shareByLaxity_2 (by decide) ?_
    refine lv_istore_n (lv' := [(2, .int 0), (1, .int 0), (0, .ref h)]) hx hb dX0_shareByLaxity_3 rfl hl (by decide) rfl (fun ls hl => ?_)
    have cont4 : ∀ (z1 : Nat), z1 = (X0_shareByLaxity_L4 qph qgr qne qap qle qnw qwa n  n 0 0 qtu).1 → ∀ (z2 : AR), z2 = (X0_shareByLaxity_L4 qph qgr qne qap qle qnw qwa n  n 0 0 qtu).2 → ∀ (H : Heap) (locs : List Loc) (ls : Array Slot), va_P (dC, dI) vwCl (xW cI cZ h a qph qgr qne qap qle qfu qpc qgd qri qnw qtk qsv qwa qgi qlo z2) H → va_D A (xW cI cZ h a qph qgr qne qap qle qfu qpc qgd qri qnw qtk qsv qwa qgi qlo z2) → va_S A s.heap H locs → lv_has ls 4 [(0, .ref h), (1, .int (nI z1))] → W p l e rmX0_shareByLaxity s m args below meth c H locs 0 0 Q (F0 m 36 ls []) := by
      intro z1 hz1 z2 hz2 H locs ls hP hD hS hl
      refine lv_iconst (v := 0) hx hb dX0_shareByLaxity_36 (by decide) ?_
      refine lv_istore_n (lv' := [(2, .int 0), (0, .ref h), (1, .int (nI z1))]) hx hb dX0_shareByLaxity_37 rfl hl (by decide) rfl (fun ls hl => ?_)
      have cont38 : ∀ (z3 : AR), z3 = (X0_shareByLaxity_L38 qph qgr qne qap qle qfu qnw qwa qtu n  z1 0 qgi qlo).1 → ∀ (z4 : AR), z4 = (X0_shareByLaxity_L38 qph qgr qne qap qle qfu qnw qwa qtu n  z1 0 qgi qlo).2 → ∀ (H : Heap) (locs : List Loc) (ls : Array Slot), va_P (dC, dI) vwCl (xW cI cZ h a qph qgr qne qap qle qfu qpc qgd qri qnw qtk qsv qwa z3 z4 z2) H → va_D A (xW cI cZ h a qph qgr qne qap qle qfu qpc qgd qri qnw qtk qsv qwa z3 z4 z2) → va_S A s.heap H locs → lv_has ls 4 [(0, .ref h), (1, .int (nI z1))] → W p l e rmX0_shareByLaxity s m args below meth c H locs 0 0 Q (F0 m 75 ls []) := by
        intro z3 hz3 z4 hz4 H locs ls hP hD hS hl
        subst hz1 hz2 hz3 hz4
        have hP : va_P (dC, dI) vwCl (xW cI cZ h a qph qgr qne qap qle qfu qpc qgd qri qnw qtk qsv qwa ((X0_shareByLaxity qph qgr qne qap qle qfu qnw qwa qgi qlo qtu n).1) ((X0_shareByLaxity qph qgr qne qap qle qfu qnw qwa qgi qlo qtu n).2.1) ((X0_shareByLaxity qph qgr qne qap qle qfu qnw qwa qgi qlo qtu n).2.2)) H := by rw [X0_shareByLaxity]; exact hP
        have hD : va_D A (xW cI cZ h a qph qgr qne qap qle qfu qpc qgd qri qnw qtk qsv qwa ((X0_shareByLaxity qph qgr qne qap qle qfu qnw qwa qgi qlo qtu n).1) ((X0_shareByLaxity qph qgr qne qap qle qfu qnw qwa qgi qlo qtu n).2.1) ((X0_shareByLaxity qph qgr qne qap qle qfu qnw qwa qgi qlo qtu n).2.2)) := by rw [X0_shareByLaxity]; exact hD
        exact hret H locs 75 ls hS hP hD dX0_shareByLaxity_75
      obtain ⟨hW1, hT1⟩ := X0_shareByLaxity_inL qph qgr qne qap qle qnw qwa n hn n 0 0 qtu (by omega) (Nat.le_refl 0) (fun q h => absurd h (Nat.not_lt_zero q))
      rw [← hz1, ← hz2] at hT1
      rw [← hz1] at hW1
      have loop38 : ∀ (j k : Nat) (vgi : AR) (vlo : AR), k + j = z1 → X0_shareByLaxity_L38 qph qgr qne qap qle qfu qnw qwa qtu n  j k vgi vlo = (X0_shareByLaxity_L38 qph qgr qne qap qle qfu qnw qwa qtu n  z1 0 qgi qlo) → ∀ (H : Heap) (locs : List Loc) (ls : Array Slot), va_P (dC, dI) vwCl (xW cI cZ h a qph qgr qne qap qle qfu qpc qgd qri qnw qtk qsv qwa vgi vlo z2) H → va_D A (xW cI cZ h a qph qgr qne qap qle qfu qpc qgd qri qnw qtk qsv qwa vgi vlo z2) → va_S A s.heap H locs → lv_has ls 4 [(0, .ref h), (1, .int (nI z1)), (2, .int (nI k))] → W p l e rmX0_shareByLaxity s m args below meth c H locs 0 0 Q (F0 m 38 ls []) := by
        intro j
        induction j with
        | zero =>
          intro k vgi vlo hk hR  H locs ls hP hD hS hl
          refine lv_iload_n hx hb dX0_shareByLaxity_38 rfl (lv_at hl 2 rfl) ?_
          refine lv_iload_n hx hb dX0_shareByLaxity_39 rfl (lv_at hl 1 rfl) ?_
          refine lv_icmp_ge (tgt := 75) hx hb dX0_shareByLaxity_40 (by decide) (fun _ => ?_) (fun c => absurd (by exact nI_le (by omega) (by omega)) c)
          subst hz1 hz2
          exact cont38 vgi (by rw [← hR, X0_shareByLaxity_L38]) vlo (by rw [← hR, X0_shareByLaxity_L38]) H locs ls hP hD hS (lv_sub hl [0, 1] rfl)
        | succ j ih =>
          intro k vgi vlo hk hR  H locs ls hP hD hS hl
          refine lv_iload_n hx hb dX0_shareByLaxity_38 rfl (lv_at hl 2 rfl) ?_
          refine lv_iload_n hx hb dX0_shareByLaxity_39 rfl (lv_at hl 1 rfl) ?_
          refine lv_icmp_ge (tgt := 75) hx hb dX0_shareByLaxity_40 (by decide) (fun c => absurd c (by exact nI_ge (by omega) (by omega))) (fun _ => ?_)
          refine lv_aload_n hx hb dX0_shareByLaxity_43 rfl (lv_at hl 0 rfl) ?_
          refine va_get (D := (dC, dI)) (ci := 0) (v := .ref (a 15)) (C := RX0) (T := TX0) (N := 16) hx hb hts hin hown hK hP 0 rfl rfl 15 (by decide) hw0 (fun _ h9 => h9) rfl dX0_shareByLaxity_44 ?_
          refine lv_iload_n hx hb dX0_shareByLaxity_47 rfl (lv_at hl 2 rfl) ?_
          refine va_iald (f := z2) hx hb hK hP 10 0 rfl rfl (vp_in_nI (by omega) (by decide)) dX0_shareByLaxity_48 ?_
          refine lv_istore_n (lv' := [(3, .int (z2 (nI k).toNatClampNeg)), (0, .ref h), (1, .int (nI z1)), (2, .int (nI k))]) hx hb dX0_shareByLaxity_49 rfl hl (by decide) rfl (fun ls hl => ?_)
          refine lv_aload_n hx hb dX0_shareByLaxity_50 rfl (lv_at hl 1 rfl) ?_
          refine lv_iload_n hx hb dX0_shareByLaxity_51 rfl (lv_at hl 0 rfl) ?_
          refine lv_aload_n hx hb dX0_shareByLaxity_52 rfl (lv_at hl 1 rfl) ?_
          refine va_get (D := (dC, dI)) (ci := 0) (v := .ref (a 12)) (C := RX0) (T := TX0) (N := 16) hx hb hts hin hown hK hP 0 rfl rfl 12 (by decide) hw1 (fun _ h9 => h9) rfl dX0_shareByLaxity_53 ?_
          refine lv_iload_n hx hb dX0_shareByLaxity_56 rfl (lv_at hl 0 rfl) ?_
          refine va_iald (f := qwa) hx hb hK hP 7 0 rfl rfl (hT1 _ (by rw [nI_clamp (by omega)]; omega)) dX0_shareByLaxity_57 ?_
          refine lv_aload_n hx hb dX0_shareByLaxity_58 rfl (lv_at hl 1 rfl) ?_
          refine lv_iload_n hx hb dX0_shareByLaxity_59 rfl (lv_at hl 0 rfl) ?_
          refine k_calli (rest := [.int (qwa (z2 (nI k).toNatClampNeg).toNatClampNeg), .int (z2 (nI k).toNatClampNeg), .ref h]) (q0 := 0) hC (c_X0_roomFor l dC dI cI cZ h a qph qgr qne qap qle qfu qpc qgd qri qnw qtk qsv qwa vgi vlo z2  (z2 (nI k).toNatClampNeg) (hT1 _ (by rw [nI_clamp (by omega)]; omega))) (cwV 1 hts gX0_shareByLaxity_X0_roomFor rfl rfl rfl hd_X0_roomFor ⟨Nat.le_of_ble_eq_true rfl, Nat.le_of_ble_eq_true rfl⟩) hK hP hD hS hA rfl rfl rfl hl.1 (Nat.le_of_ble_eq_true rfl) dX0_shareByLaxity_60 rfl ⟨Nat.zero_le _, Nat.zero_le _⟩ (fun H locs hP hD hS => ?_)
          refine va_mmin hx hb (hml.trans hl.1.symm) hown hw2 hw3 hw4 hw5 (Nat.le_of_ble_eq_true rfl) (Nat.le_of_ble_eq_true rfl) (Nat.zero_le _) (Nat.zero_le _) dX0_shareByLaxity_63 ?_
          refine k_callv (rest := []) (q0 := 0) hC (c_X0_give l dC dI cI cZ h a qph qgr qne qap qle qfu qpc qgd qri qnw qtk qsv qwa vgi vlo z2  (z2 (nI k).toNatClampNeg) (if (X0_roomFor qph qfu vlo (z2 (nI k).toNatClampNeg)) < (qwa (z2 (nI k).toNatClampNeg).toNatClampNeg) then (X0_roomFor qph qfu vlo (z2 (nI k).toNatClampNeg)) else (qwa (z2 (nI k).toNatClampNeg).toNatClampNeg)) (hT1 _ (by rw [nI_clamp (by omega)]; omega))) (cwV 2 hts gX0_shareByLaxity_X0_give rfl rfl rfl hd_X0_give ⟨Nat.le_of_ble_eq_true rfl, Nat.le_of_ble_eq_true rfl⟩) hK hP hD hS hA rfl rfl rfl hl.1 (Nat.le_of_ble_eq_true rfl) dX0_shareByLaxity_66 rfl ⟨Nat.zero_le _, Nat.zero_le _⟩ (fun H locs hP hD hS => ?_)
          obtain ⟨z5, hz5⟩ : ∃ z : AR, z = ((X0_give qph vgi vlo (z2 (nI k).toNatClampNeg) (if (X0_roomFor qph qfu vlo (z2 (nI k).toNatClampNeg)) < (qwa (z2 (nI k).toNatClampNeg).toNatClampNeg) then (X0_roomFor qph qfu vlo (z2 (nI k).toNatClampNeg)) else (qwa (z2 (nI k).toNatClampNeg).toNatClampNeg))).1) := ⟨_, rfl⟩
          rw [← hz5] at hP hD
          obtain ⟨z6, hz6⟩ : ∃ z : AR, z = ((X0_give qph vgi vlo (z2 (nI k).toNatClampNeg) (if (X0_roomFor qph qfu vlo (z2 (nI k).toNatClampNeg)) < (qwa (z2 (nI k).toNatClampNeg).toNatClampNeg) then (X0_roomFor qph qfu vlo (z2 (nI k).toNatClampNeg)) else (qwa (z2 (nI k).toNatClampNeg).toNatClampNeg))).2) := ⟨_, rfl⟩
          rw [← hz6] at hP hD
          have hP : va_P (dC, dI) vwCl (xW cI cZ h a qph qgr qne qap qle qfu qpc qgd qri qnw qtk qsv qwa z5 z6 z2) H := hP
          have hD : va_D A (xW cI cZ h a qph qgr qne qap qle qfu qpc qgd qri qnw qtk qsv qwa z5 z6 z2) := hD
          refine lv_iinc (v := (nI (k + 1))) (lv' := [(2, .int (nI (k + 1))), (3, .int (z2 (nI k).toNatClampNeg)), (0, .ref h), (1, .int (nI z1))]) hx hb dX0_shareByLaxity_69 hl (k := 3) rfl (nI_1 k) (by decide) rfl (fun ls hl => ?_)
          refine lv_goto (tgt := 38) hx hb dX0_shareByLaxity_72 (by decide) ?_
          subst hz1 hz2 hz5 hz6
          exact ih (k + 1) ((X0_give qph vgi vlo (((X0_shareByLaxity_L4 qph qgr qne qap qle qnw qwa n  n 0 0 qtu).2) (nI k).toNatClampNeg) (if (X0_roomFor qph qfu vlo (((X0_shareByLaxity_L4 qph qgr qne qap qle qnw qwa n  n 0 0 qtu).2) (nI k).toNatClampNeg)) < (qwa (((X0_shareByLaxity_L4 qph qgr qne qap qle qnw qwa n  n 0 0 qtu).2) (nI k).toNatClampNeg).toNatClampNeg) then (X0_roomFor qph qfu vlo (((X0_shareByLaxity_L4 qph qgr qne qap qle qnw qwa n  n 0 0 qtu).2) (nI k).toNatClampNeg)) else (qwa (((X0_shareByLaxity_L4 qph qgr qne qap qle qnw qwa n  n 0 0 qtu).2) (nI k).toNatClampNeg).toNatClampNeg))).1) ((X0_give qph vgi vlo (((X0_shareByLaxity_L4 qph qgr qne qap qle qnw qwa n  n 0 0 qtu).2) (nI k).toNatClampNeg) (if (X0_roomFor qph qfu vlo (((X0_shareByLaxity_L4 qph qgr qne qap qle qnw qwa n  n 0 0 qtu).2) (nI k).toNatClampNeg)) < (qwa (((X0_shareByLaxity_L4 qph qgr qne qap qle qnw qwa n  n 0 0 qtu).2) (nI k).toNatClampNeg).toNatClampNeg) then (X0_roomFor qph qfu vlo (((X0_shareByLaxity_L4 qph qgr qne qap qle qnw qwa n  n 0 0 qtu).2) (nI k).toNatClampNeg)) else (qwa (((X0_shareByLaxity_L4 qph qgr qne qap qle qnw qwa n  n 0 0 qtu).2) (nI k).toNatClampNeg).toNatClampNeg))).2) (by omega) (by rw [← hR, X0_shareByLaxity_L38])  H locs ls hP hD hS (lv_sub hl [2, 3, 0] rfl)
      exact loop38 z1 0 qgi qlo (by omega) rfl  H locs ls hP hD hS (lv_sub hl [1, 2, 0] rfl)
    have loop4 : ∀ (j k : Nat) (w : Nat) (vtu : AR), k + j = n → X0_shareByLaxity_L4 qph qgr qne qap qle qnw qwa n  j k w vtu = (X0_shareByLaxity_L4 qph qgr qne qap qle qnw qwa n  n 0 0 qtu) → (w ≤ k) → (∀ q, q < w → vp_in (vtu q) 8) → ∀ (H : Heap) (locs : List Loc) (ls : Array Slot), va_P (dC, dI) vwCl (xW cI cZ h a qph qgr qne qap qle qfu qpc qgd qri qnw qtk qsv qwa qgi qlo vtu) H → va_D A (xW cI cZ h a qph qgr qne qap qle qfu qpc qgd qri qnw qtk qsv qwa qgi qlo vtu) → va_S A s.heap H locs → lv_has ls 4 [(0, .ref h), (1, .int (nI w)), (2, .int (nI k))] → W p l e rmX0_shareByLaxity s m args below meth c H locs 0 0 Q (F0 m 4 ls []) := by
      intro j
      induction j with
      | zero =>
        intro k w vtu hk hR hwk hv H locs ls hP hD hS hl
        refine lv_iload_n hx hb dX0_shareByLaxity_4 rfl (lv_at hl 2 rfl) ?_
        refine lv_aload_n hx hb dX0_shareByLaxity_5 rfl (lv_at hl 0 rfl) ?_
        refine va_get (D := (dC, dI)) (ci := 0) (v := .int qpc) (C := RX0) (T := TX0) (N := 16) hx hb hts hin hown hK hP 0 rfl rfl 6 (by decide) hw6 (fun _ h9 => h9) rfl dX0_shareByLaxity_6 ?_
        refine lv_icmp_ge (tgt := 36) hx hb dX0_shareByLaxity_9 (by decide) (fun _ => ?_) (fun c => absurd (by rw [hpc]; exact nI_le (by omega) (by omega)) c)
        exact cont4 w (by rw [← hR, X0_shareByLaxity_L4]) vtu (by rw [← hR, X0_shareByLaxity_L4]) H locs ls hP hD hS (lv_sub hl [0, 1] rfl)
      | succ j ih =>
        intro k w vtu hk hR hwk hv H locs ls hP hD hS hl
        refine lv_iload_n hx hb dX0_shareByLaxity_4 rfl (lv_at hl 2 rfl) ?_
        refine lv_aload_n hx hb dX0_shareByLaxity_5 rfl (lv_at hl 0 rfl) ?_
        refine va_get (D := (dC, dI)) (ci := 0) (v := .int qpc) (C := RX0) (T := TX0) (N := 16) hx hb hts hin hown hK hP 0 rfl rfl 6 (by decide) hw6 (fun _ h9 => h9) rfl dX0_shareByLaxity_6 ?_
        refine lv_icmp_ge (tgt := 36) hx hb dX0_shareByLaxity_9 (by decide) (fun c => absurd c (by rw [hpc]; exact nI_ge (by omega) (by omega))) (fun _ => ?_)
        refine lv_aload_n hx hb dX0_shareByLaxity_12 rfl (lv_at hl 0 rfl) ?_
        refine va_get (D := (dC, dI)) (ci := 0) (v := .ref (a 12)) (C := RX0) (T := TX0) (N := 16) hx hb hts hin hown hK hP 0 rfl rfl 12 (by decide) hw1 (fun _ h9 => h9) rfl dX0_shareByLaxity_13 ?_
        refine lv_iload_n hx hb dX0_shareByLaxity_16 rfl (lv_at hl 2 rfl) ?_
        refine va_iald (f := qwa) hx hb hK hP 7 0 rfl rfl (vp_in_nI (by omega) (by decide)) dX0_shareByLaxity_17 ?_
        refine lv_if_le (tgt := 30) hx hb dX0_shareByLaxity_18 (by decide) (fun c18 => ?_) (fun c18 => ?_)
        · refine lv_iinc (v := (nI (k + 1))) (lv' := [(2, .int (nI (k + 1))), (0, .ref h), (1, .int (nI w))]) hx hb dX0_shareByLaxity_30 hl (k := 2) rfl (nI_1 k) (by decide) rfl (fun ls hl => ?_)
          refine lv_goto (tgt := 4) hx hb dX0_shareByLaxity_33 (by decide) ?_
          exact ih (k + 1) w vtu (by omega) (by rw [← hR, X0_shareByLaxity_L4, if_pos c18]) (by omega) (by first | exact hv | exact X0_putIntoTurns_in _ _ _ _ _ _ vtu (nI k) w (vp_in_nI (by omega) (by decide)) (by omega) hv) H locs ls hP hD hS (lv_sub hl [1, 2, 0] rfl)
        · refine lv_aload_n hx hb dX0_shareByLaxity_21 rfl (lv_at hl 0 rfl) ?_
          refine lv_iload_n hx hb dX0_shareByLaxity_22 rfl (lv_at hl 2 rfl) ?_
          refine lv_iload_n hx hb dX0_shareByLaxity_23 rfl (lv_at hl 1 rfl) ?_
          refine k_callv (rest := []) (q0 := 0) hC (c_X0_putIntoTurns l dC dI cI cZ h a qph qgr qne qap qle qfu qpc qgd qri qnw qtk qsv qwa qgi qlo vtu  (nI k) w (vp_in_nI (by omega) (by decide)) (by omega) hv) (cwV 2 hts gX0_shareByLaxity_X0_putIntoTurns rfl rfl rfl hd_X0_putIntoTurns ⟨Nat.le_of_ble_eq_true rfl, Nat.le_of_ble_eq_true rfl⟩) hK hP hD hS hA rfl rfl rfl hl.1 (Nat.le_of_ble_eq_true rfl) dX0_shareByLaxity_24 rfl ⟨Nat.zero_le _, Nat.zero_le _⟩ (fun H locs hP hD hS => ?_)
          obtain ⟨z7, hz7⟩ : ∃ z : AR, z = ((X0_putIntoTurns qph qgr qne qap qle qnw vtu (nI k) w)) := ⟨_, rfl⟩
          rw [← hz7] at hP hD
          have hP : va_P (dC, dI) vwCl (xW cI cZ h a qph qgr qne qap qle qfu qpc qgd qri qnw qtk qsv qwa qgi qlo z7) H := hP
          have hD : va_D A (xW cI cZ h a qph qgr qne qap qle qfu qpc qgd qri qnw qtk qsv qwa qgi qlo z7) := hD
          refine lv_iinc (v := (nI (w + 1))) (lv' := [(1, .int (nI (w + 1))), (0, .ref h), (2, .int (nI k))]) hx hb dX0_shareByLaxity_27 hl (k := 1) rfl (nI_1 w) (by decide) rfl (fun ls hl => ?_)
          refine lv_iinc (v := (nI (k + 1))) (lv' := [(2, .int (nI (k + 1))), (1, .int (nI (w + 1))), (0, .ref h)]) hx hb dX0_shareByLaxity_30 hl (k := 2) rfl (nI_1 k) (by decide) rfl (fun ls hl => ?_)
          refine lv_goto (tgt := 4) hx hb dX0_shareByLaxity_33 (by decide) ?_
          subst hz7
          exact ih (k + 1) (w + 1) ((X0_putIntoTurns qph qgr qne qap qle qnw vtu (nI k) w)) (by omega) (by rw [← hR, X0_shareByLaxity_L4, if_neg c18]) (by omega) (by first | exact hv | exact X0_putIntoTurns_in _ _ _ _ _ _ vtu (nI k) w (vp_in_nI (by omega) (by decide)) (by omega) hv) H locs ls hP hD hS (lv_sub hl [2, 1, 0] rfl)
    exact loop4 n 0 0 qtu (by omega) rfl (Nat.le_refl 0) (fun q h => absurd h (Nat.not_lt_zero q)) H locs ls hP hD hS (lv_sub hl [2, 1, 0] rfl)
  exact hW _ _ hP hD hS
def X0_keepBalance_L2 (qph : AR) (qgd : Int32) (n : Nat) : Nat → Nat → AR → AR → AR × AR
  | 0, k, vgi, vlo => (vgi, vlo)
  | j + 1, k, vgi, vlo => (if qgd < (X0_differenceOfLoads vlo) then (if (X0_mostGivenAloneAt qph vgi n (X0_phaseOfGreatestLoad vlo)) = (-1) then (vgi, vlo) else X0_keepBalance_L2 qph qgd n  j (k + 1) ((X0_give qph vgi vlo (X0_mostGivenAloneAt qph vgi n (X0_phaseOfGreatestLoad vlo)) (-1)).1) ((X0_give qph vgi vlo (X0_mostGivenAloneAt qph vgi n (X0_phaseOfGreatestLoad vlo)) (-1)).2)) else (vgi, vlo))
def X0_keepBalance (qph : AR) (qgd : Int32) (qgi : AR) (qlo : AR) (n : Nat) : AR × AR := (X0_keepBalance_L2 qph qgd n  256 0 qgi qlo)
abbrev rmX0_keepBalance : Room := { frames := 2, cells := 0, slots := 0, locals := 45 }
theorem hd_X0_keepBalance : yX0_keepBalance.cls = RX0 ∧ yX0_keepBalance.cls ≠ "java/lang/invoke/MethodHandle" ∧ yX0_keepBalance.cls ≠ "java/lang/invoke/VarHandle" ∧ (parseMethodDescriptor yX0_keepBalance.desc).map (fun d => d.parameters.length) = some 0 := by decide +kernel
set_option maxHeartbeats 4000000 in
set_option maxRecDepth 100000 in
theorem c_X0_keepBalance (l : Launch) (dC : Nat → ClassId) (dI : Nat → Nat → Nat) (cI cZ : ClassId) (h : Nat) (a : Nat → Nat) (qph : AR) (qgr : AR) (qne : AR) (qap : AR) (qle : AR) (qfu : AR) (qpc : Int32) (qgd : Int32) (qri : Int32) (qnw : Int32) (qtk : Int32) (qsv : Int32) (qwa : AR) (qgi : AR) (qlo : AR) (qtu : AR) (n : Nat) (hpc : qpc = nI n) (hn : n ≤ 8) : Kv l yX0_keepBalance wsX0_keepBalance rmX0_keepBalance dC dI cI cZ [.ref h] (xW cI cZ h a qph qgr qne qap qle qfu qpc qgd qri qnw qtk qsv qwa qgi qlo qtu) (xW cI cZ h a qph qgr qne qap qle qfu qpc qgd qri qnw qtk qsv qwa ((X0_keepBalance qph qgd qgi qlo n).1) ((X0_keepBalance qph qgd qgi qlo n).2) qtu) := by
  refine k_enter_v (cc := cX0_keepBalance) (maxL := 3) (ret := none) (by decide) rfl (Nat.le_of_ble_eq_true rfl) ?_
  intro p e s m below meth c A ls hC hr hlocks hK hP hD hS hA hl
  generalize List.toArray _ = args at hC ⊢
  obtain ⟨hx, hb, hml, hown, hts⟩ := id hC
  have hret : ∀ (H : Heap) (locs : List Loc) (pc : Nat) (ls : Array Slot), va_S A s.heap H locs → va_P (dC, dI) vwCl (xW cI cZ h a qph qgr qne qap qle qfu qpc qgd qri qnw qtk qsv qwa ((X0_keepBalance qph qgd qgi qlo n).1) ((X0_keepBalance qph qgd qgi qlo n).2) qtu) H → va_D A (xW cI cZ h a qph qgr qne qap qle qfu qpc qgd qri qnw qtk qsv qwa ((X0_keepBalance qph qgd qgi qlo n).1) ((X0_keepBalance qph qgd qgi qlo n).2) qtu) → decode cX0_keepBalance pc = .ok (.return_, 1) → W p l e rmX0_keepBalance s m args below meth c H locs 0 0 (MQ below (va_Qv (fun (_ : Unit) => True) (kBeh dC dI A (xW cI cZ h a qph qgr qne qap qle qfu qpc qgd qri qnw qtk qsv qwa ((X0_keepBalance qph qgd qgi qlo n).1) ((X0_keepBalance qph qgd qgi qlo n).2) qtu)) A) args s 0 0 A) (F0 m pc ls []) := fun H locs pc ls hS hP hD d => k_vret hx hb hr hlocks hS hP hD d
  generalize MQ below _ _ _ _ _ _ = Q at hret ⊢
  have hin : ∀ w ∈ wsX00, w ∈ wsX0_keepBalance := by decide +kernel
  have hw0 := hts (.fieldLink RX0 40 "ChargePark" "greatestDifference" "I") (by decide +kernel)
  have hl : lv_has ls 3 [(0, .ref h)] := hl
  have hP : va_P (dC, dI) vwCl (xW cI cZ h a qph qgr qne qap qle qfu qpc qgd qri qnw qtk qsv qwa qgi qlo qtu) s.heap := hP
  have hW : ∀ (H : Heap) (locs : List Loc), va_P (dC, dI) vwCl (xW cI cZ h a qph qgr qne qap qle qfu qpc qgd qri qnw qtk qsv qwa qgi qlo qtu) H → va_D A (xW cI cZ h a qph qgr qne qap qle qfu qpc qgd qri qnw qtk qsv qwa qgi qlo qtu) → va_S A s.heap H locs → W p l e rmX0_keepBalance s m args below meth c H locs 0 0 Q (F0 m 0 ls []) := by
    intro H locs hP hD hS
    refine lv_iconst (v := 0) hx hb dX0_keepBalance_0 (by decide) ?_
    refine lv_istore_n (lv' := [(1, .int 0), (0, .ref h)]) hx hb dX0_keepBalance_1 rfl hl (by decide) rfl (fun ls hl => ?_)
    have loop2 : ∀ (j k : Nat) (vgi : AR) (vlo : AR), k + j = 256 → X0_keepBalance_L2 qph qgd n  j k vgi vlo = (X0_keepBalance qph qgd qgi qlo n) → ∀ (H : Heap) (locs : List Loc) (ls : Array Slot), va_P (dC, dI) vwCl (xW cI cZ h a qph qgr qne qap qle qfu qpc qgd qri qnw qtk qsv qwa vgi vlo qtu) H → va_D A (xW cI cZ h a qph qgr qne qap qle qfu qpc qgd qri qnw qtk qsv qwa vgi vlo qtu) → va_S A s.heap H locs → lv_has ls 3 [(0, .ref h), (1, .int (nI k))] → W p l e rmX0_keepBalance s m args below meth c H locs 0 0 Q (F0 m 2 ls []) := by
      intro j
      induction j with
      | zero =>
        intro k vgi vlo hk hR  H locs ls hP hD hS hl
        refine lv_iload_n hx hb dX0_keepBalance_2 rfl (lv_at hl 1 rfl) ?_
        refine lv_sipush (v := 256) hx hb dX0_keepBalance_3 (by decide) ?_
        refine lv_icmp_ge (tgt := 48) hx hb dX0_keepBalance_6 (by decide) (fun _ => ?_) (fun c => absurd (by rw [nIl256]; exact nI_le (by omega) (by omega)) c)
        have hP : va_P (dC, dI) vwCl (xW cI cZ h a qph qgr qne qap qle qfu qpc qgd qri qnw qtk qsv qwa ((X0_keepBalance qph qgd qgi qlo n).1) ((X0_keepBalance qph qgd qgi qlo n).2) qtu) H := by rw [← hR, X0_keepBalance_L2]; exact hP
        have hD : va_D A (xW cI cZ h a qph qgr qne qap qle qfu qpc qgd qri qnw qtk qsv qwa ((X0_keepBalance qph qgd qgi qlo n).1) ((X0_keepBalance qph qgd qgi qlo n).2) qtu) := by rw [← hR, X0_keepBalance_L2]; exact hD
        exact hret H locs 48 ls hS hP hD dX0_keepBalance_48
      | succ j ih =>
        intro k vgi vlo hk hR  H locs ls hP hD hS hl
        refine lv_iload_n hx hb dX0_keepBalance_2 rfl (lv_at hl 1 rfl) ?_
        refine lv_sipush (v := 256) hx hb dX0_keepBalance_3 (by decide) ?_
        refine lv_icmp_ge (tgt := 48) hx hb dX0_keepBalance_6 (by decide) (fun c => absurd c (by rw [nIl256]; exact nI_ge (by omega) (by omega))) (fun _ => ?_)
        refine lv_aload_n hx hb dX0_keepBalance_9 rfl (lv_at hl 0 rfl) ?_
        refine k_calli (rest := []) (q0 := 0) hC (c_X0_differenceOfLoads l dC dI cI cZ h a qph qgr qne qap qle qfu qpc qgd qri qnw qtk qsv qwa vgi vlo qtu   ) (cwV 0 hts gX0_keepBalance_X0_differenceOfLoads rfl rfl rfl hd_X0_differenceOfLoads ⟨Nat.le_of_ble_eq_true rfl, Nat.le_of_ble_eq_true rfl⟩) hK hP hD hS hA rfl rfl rfl hl.1 (Nat.le_of_ble_eq_true rfl) dX0_keepBalance_10 rfl ⟨Nat.zero_le _, Nat.zero_le _⟩ (fun H locs hP hD hS => ?_)
        refine lv_aload_n hx hb dX0_keepBalance_13 rfl (lv_at hl 0 rfl) ?_
        refine va_get (D := (dC, dI)) (ci := 0) (v := .int qgd) (C := RX0) (T := TX0) (N := 16) hx hb hts hin hown hK hP 0 rfl rfl 7 (by decide) hw0 (fun _ h9 => h9) rfl dX0_keepBalance_14 ?_
        refine lv_icmp_gt (tgt := 21) hx hb dX0_keepBalance_17 (by decide) (fun c17 => ?_) (fun c17 => ?_)
        · refine lv_aload_n hx hb dX0_keepBalance_21 rfl (lv_at hl 0 rfl) ?_
          refine lv_aload_n hx hb dX0_keepBalance_22 rfl (lv_at hl 0 rfl) ?_
          refine k_calli (rest := [.ref h]) (q0 := 0) hC (c_X0_phaseOfGreatestLoad l dC dI cI cZ h a qph qgr qne qap qle qfu qpc qgd qri qnw qtk qsv qwa vgi vlo qtu   ) (cwV 0 hts gX0_keepBalance_X0_phaseOfGreatestLoad rfl rfl rfl hd_X0_phaseOfGreatestLoad ⟨Nat.le_of_ble_eq_true rfl, Nat.le_of_ble_eq_true rfl⟩) hK hP hD hS hA rfl rfl rfl hl.1 (Nat.le_of_ble_eq_true rfl) dX0_keepBalance_23 rfl ⟨Nat.zero_le _, Nat.zero_le _⟩ (fun H locs hP hD hS => ?_)
          refine k_calli (rest := []) (q0 := 0) hC (c_X0_mostGivenAloneAt l dC dI cI cZ h a qph qgr qne qap qle qfu qpc qgd qri qnw qtk qsv qwa vgi vlo qtu n (X0_phaseOfGreatestLoad vlo) hpc hn) (cwV 1 hts gX0_keepBalance_X0_mostGivenAloneAt rfl rfl rfl hd_X0_mostGivenAloneAt ⟨Nat.le_of_ble_eq_true rfl, Nat.le_of_ble_eq_true rfl⟩) hK hP hD hS hA rfl rfl rfl hl.1 (Nat.le_of_ble_eq_true rfl) dX0_keepBalance_26 rfl ⟨Nat.zero_le _, Nat.zero_le _⟩ (fun H locs hP hD hS => ?_)
          refine lv_istore_n (lv' := [(2, .int (X0_mostGivenAloneAt qph vgi n (X0_phaseOfGreatestLoad vlo))), (0, .ref h), (1, .int (nI k))]) hx hb dX0_keepBalance_29 rfl hl (by decide) rfl (fun ls hl => ?_)
          refine lv_iload_n hx hb dX0_keepBalance_30 rfl (lv_at hl 0 rfl) ?_
          refine lv_iconst (v := (-1)) hx hb dX0_keepBalance_31 (by decide) ?_
          refine lv_icmp_ne (tgt := 36) hx hb dX0_keepBalance_32 (by decide) (fun c32 => ?_) (fun c32 => ?_)
          · refine lv_aload_n hx hb dX0_keepBalance_36 rfl (lv_at hl 1 rfl) ?_
            refine lv_iload_n hx hb dX0_keepBalance_37 rfl (lv_at hl 0 rfl) ?_
            refine lv_iconst (v := (-1)) hx hb dX0_keepBalance_38 (by decide) ?_
            refine k_callv (rest := []) (q0 := 0) hC (c_X0_give l dC dI cI cZ h a qph qgr qne qap qle qfu qpc qgd qri qnw qtk qsv qwa vgi vlo qtu  (X0_mostGivenAloneAt qph vgi n (X0_phaseOfGreatestLoad vlo)) (-1) ((X0_mostGivenAloneAt_in _ _ n _ hn).resolve_left c32)) (cwV 2 hts gX0_keepBalance_X0_give rfl rfl rfl hd_X0_give ⟨Nat.le_of_ble_eq_true rfl, Nat.le_of_ble_eq_true rfl⟩) hK hP hD hS hA rfl rfl rfl hl.1 (Nat.le_of_ble_eq_true rfl) dX0_keepBalance_39 rfl ⟨Nat.zero_le _, Nat.zero_le _⟩ (fun H locs hP hD hS => ?_)
            obtain ⟨z1, hz1⟩ : ∃ z : AR, z = ((X0_give qph vgi vlo (X0_mostGivenAloneAt qph vgi n (X0_phaseOfGreatestLoad vlo)) (-1)).1) := ⟨_, rfl⟩
            rw [← hz1] at hP hD
            obtain ⟨z2, hz2⟩ : ∃ z : AR, z = ((X0_give qph vgi vlo (X0_mostGivenAloneAt qph vgi n (X0_phaseOfGreatestLoad vlo)) (-1)).2) := ⟨_, rfl⟩
            rw [← hz2] at hP hD
            have hP : va_P (dC, dI) vwCl (xW cI cZ h a qph qgr qne qap qle qfu qpc qgd qri qnw qtk qsv qwa z1 z2 qtu) H := hP
            have hD : va_D A (xW cI cZ h a qph qgr qne qap qle qfu qpc qgd qri qnw qtk qsv qwa z1 z2 qtu) := hD
            refine lv_iinc (v := (nI (k + 1))) (lv' := [(1, .int (nI (k + 1))), (2, .int (X0_mostGivenAloneAt qph vgi n (X0_phaseOfGreatestLoad vlo))), (0, .ref h)]) hx hb dX0_keepBalance_42 hl (k := 2) rfl (nI_1 k) (by decide) rfl (fun ls hl => ?_)
            refine lv_goto (tgt := 2) hx hb dX0_keepBalance_45 (by decide) ?_
            subst hz1 hz2
            exact ih (k + 1) ((X0_give qph vgi vlo (X0_mostGivenAloneAt qph vgi n (X0_phaseOfGreatestLoad vlo)) (-1)).1) ((X0_give qph vgi vlo (X0_mostGivenAloneAt qph vgi n (X0_phaseOfGreatestLoad vlo)) (-1)).2) (by omega) (by rw [← hR, X0_keepBalance_L2, if_pos c17, if_neg c32])  H locs ls hP hD hS (lv_sub hl [2, 0] rfl)
          · have hP : va_P (dC, dI) vwCl (xW cI cZ h a qph qgr qne qap qle qfu qpc qgd qri qnw qtk qsv qwa ((X0_keepBalance qph qgd qgi qlo n).1) ((X0_keepBalance qph qgd qgi qlo n).2) qtu) H := by rw [← hR, X0_keepBalance_L2, if_pos c17, if_pos c32]; exact hP
            have hD : va_D A (xW cI cZ h a qph qgr qne qap qle qfu qpc qgd qri qnw qtk qsv qwa ((X0_keepBalance qph qgd qgi qlo n).1) ((X0_keepBalance qph qgd qgi qlo n).2) qtu) := by rw [← hR, X0_keepBalance_L2, if_pos c17, if_pos c32]; exact hD
            exact hret H locs 35 ls hS hP hD dX0_keepBalance_35
        · have hP : va_P (dC, dI) vwCl (xW cI cZ h a qph qgr qne qap qle qfu qpc qgd qri qnw qtk qsv qwa ((X0_keepBalance qph qgd qgi qlo n).1) ((X0_keepBalance qph qgd qgi qlo n).2) qtu) H := by rw [← hR, X0_keepBalance_L2, if_neg c17]; exact hP
          have hD : va_D A (xW cI cZ h a qph qgr qne qap qle qfu qpc qgd qri qnw qtk qsv qwa ((X0_keepBalance qph qgd qgi qlo n).1) ((X0_keepBalance qph qgd qgi qlo n).2) qtu) := by rw [← hR, X0_keepBalance_L2, if_neg c17]; exact hD
          exact hret H locs 20 ls hS hP hD dX0_keepBalance_20
    exact loop2 256 0 qgi qlo (by omega) (by rw [X0_keepBalance])  H locs ls hP hD hS (lv_sub hl [1, 0] rfl)
  exact hW _ _ hP hD hS
def X0_shareCurrents (qph : AR) (qgr : AR) (qne : AR) (qap : AR) (qle : AR) (qfu : AR) (qgd : Int32) (qri : Int32) (qnw : Int32) (qwa : AR) (qgi : AR) (qlo : AR) (qtu : AR) (n : Nat) : AR × AR × AR × AR := (if qri = 1 then (((X0_startShares qph qgr qne qap qle qnw qwa qgi qlo n).1), ((X0_keepBalance qph qgd ((X0_shareFairly qph qfu ((X0_startShares qph qgr qne qap qle qnw qwa qgi qlo n).1) ((X0_startShares qph qgr qne qap qle qnw qwa qgi qlo n).2.1) ((X0_startShares qph qgr qne qap qle qnw qwa qgi qlo n).2.2) n).1) ((X0_shareFairly qph qfu ((X0_startShares qph qgr qne qap qle qnw qwa qgi qlo n).1) ((X0_startShares qph qgr qne qap qle qnw qwa qgi qlo n).2.1) ((X0_startShares qph qgr qne qap qle qnw qwa qgi qlo n).2.2) n).2) n).1), ((X0_keepBalance qph qgd ((X0_shareFairly qph qfu ((X0_startShares qph qgr qne qap qle qnw qwa qgi qlo n).1) ((X0_startShares qph qgr qne qap qle qnw qwa qgi qlo n).2.1) ((X0_startShares qph qgr qne qap qle qnw qwa qgi qlo n).2.2) n).1) ((X0_shareFairly qph qfu ((X0_startShares qph qgr qne qap qle qnw qwa qgi qlo n).1) ((X0_startShares qph qgr qne qap qle qnw qwa qgi qlo n).2.1) ((X0_startShares qph qgr qne qap qle qnw qwa qgi qlo n).2.2) n).2) n).2), qtu) else (((X0_startShares qph qgr qne qap qle qnw qwa qgi qlo n).1), ((X0_keepBalance qph qgd ((X0_shareByLaxity qph qgr qne qap qle qfu qnw ((X0_startShares qph qgr qne qap qle qnw qwa qgi qlo n).1) ((X0_startShares qph qgr qne qap qle qnw qwa qgi qlo n).2.1) ((X0_startShares qph qgr qne qap qle qnw qwa qgi qlo n).2.2) qtu n).1) ((X0_shareByLaxity qph qgr qne qap qle qfu qnw ((X0_startShares qph qgr qne qap qle qnw qwa qgi qlo n).1) ((X0_startShares qph qgr qne qap qle qnw qwa qgi qlo n).2.1) ((X0_startShares qph qgr qne qap qle qnw qwa qgi qlo n).2.2) qtu n).2.1) n).1), ((X0_keepBalance qph qgd ((X0_shareByLaxity qph qgr qne qap qle qfu qnw ((X0_startShares qph qgr qne qap qle qnw qwa qgi qlo n).1) ((X0_startShares qph qgr qne qap qle qnw qwa qgi qlo n).2.1) ((X0_startShares qph qgr qne qap qle qnw qwa qgi qlo n).2.2) qtu n).1) ((X0_shareByLaxity qph qgr qne qap qle qfu qnw ((X0_startShares qph qgr qne qap qle qnw qwa qgi qlo n).1) ((X0_startShares qph qgr qne qap qle qnw qwa qgi qlo n).2.1) ((X0_startShares qph qgr qne qap qle qnw qwa qgi qlo n).2.2) qtu n).2.1) n).2), ((X0_shareByLaxity qph qgr qne qap qle qfu qnw ((X0_startShares qph qgr qne qap qle qnw qwa qgi qlo n).1) ((X0_startShares qph qgr qne qap qle qnw qwa qgi qlo n).2.1) ((X0_startShares qph qgr qne qap qle qnw qwa qgi qlo n).2.2) qtu n).2.2)))
abbrev rmX0_shareCurrents : Room := { frames := 5, cells := 0, slots := 0, locals := 103 }
theorem hd_X0_shareCurrents : yX0_shareCurrents.cls = RX0 ∧ yX0_shareCurrents.cls ≠ "java/lang/invoke/MethodHandle" ∧ yX0_shareCurrents.cls ≠ "java/lang/invoke/VarHandle" ∧ (parseMethodDescriptor yX0_shareCurrents.desc).map (fun d => d.parameters.length) = some 0 := by decide +kernel
set_option maxHeartbeats 4000000 in
set_option maxRecDepth 100000 in
theorem c_X0_shareCurrents (l : Launch) (dC : Nat → ClassId) (dI : Nat → Nat → Nat) (cI cZ : ClassId) (h : Nat) (a : Nat → Nat) (qph : AR) (qgr : AR) (qne : AR) (qap : AR) (qle : AR) (qfu : AR) (qpc : Int32) (qgd : Int32) (qri : Int32) (qnw : Int32) (qtk : Int32) (qsv : Int32) (qwa : AR) (qgi : AR) (qlo : AR) (qtu : AR) (n : Nat) (hpc : qpc = nI n) (hn : n ≤ 8) : Kv l yX0_shareCurrents wsX0_shareCurrents rmX0_shareCurrents dC dI cI cZ [.ref h] (xW cI cZ h a qph qgr qne qap qle qfu qpc qgd qri qnw qtk qsv qwa qgi qlo qtu) (xW cI cZ h a qph qgr qne qap qle qfu qpc qgd qri qnw qtk qsv ((X0_shareCurrents qph qgr qne qap qle qfu qgd qri qnw qwa qgi qlo qtu n).1) ((X0_shareCurrents qph qgr qne qap qle qfu qgd qri qnw qwa qgi qlo qtu n).2.1) ((X0_shareCurrents qph qgr qne qap qle qfu qgd qri qnw qwa qgi qlo qtu n).2.2.1) ((X0_shareCurrents qph qgr qne qap qle qfu qgd qri qnw qwa qgi qlo qtu n).2.2.2)) := by
  refine k_enter_v (cc := cX0_shareCurrents) (maxL := 1) (ret := none) (by decide) rfl (Nat.le_of_ble_eq_true rfl) ?_
  intro p e s m below meth c A ls hC hr hlocks hK hP hD hS hA hl
  generalize List.toArray _ = args at hC ⊢
  obtain ⟨hx, hb, hml, hown, hts⟩ := id hC
  have hret : ∀ (H : Heap) (locs : List Loc) (pc : Nat) (ls : Array Slot), va_S A s.heap H locs → va_P (dC, dI) vwCl (xW cI cZ h a qph qgr qne qap qle qfu qpc qgd qri qnw qtk qsv ((X0_shareCurrents qph qgr qne qap qle qfu qgd qri qnw qwa qgi qlo qtu n).1) ((X0_shareCurrents qph qgr qne qap qle qfu qgd qri qnw qwa qgi qlo qtu n).2.1) ((X0_shareCurrents qph qgr qne qap qle qfu qgd qri qnw qwa qgi qlo qtu n).2.2.1) ((X0_shareCurrents qph qgr qne qap qle qfu qgd qri qnw qwa qgi qlo qtu n).2.2.2)) H → va_D A (xW cI cZ h a qph qgr qne qap qle qfu qpc qgd qri qnw qtk qsv ((X0_shareCurrents qph qgr qne qap qle qfu qgd qri qnw qwa qgi qlo qtu n).1) ((X0_shareCurrents qph qgr qne qap qle qfu qgd qri qnw qwa qgi qlo qtu n).2.1) ((X0_shareCurrents qph qgr qne qap qle qfu qgd qri qnw qwa qgi qlo qtu n).2.2.1) ((X0_shareCurrents qph qgr qne qap qle qfu qgd qri qnw qwa qgi qlo qtu n).2.2.2)) → decode cX0_shareCurrents pc = .ok (.return_, 1) → W p l e rmX0_shareCurrents s m args below meth c H locs 0 0 (MQ below (va_Qv (fun (_ : Unit) => True) (kBeh dC dI A (xW cI cZ h a qph qgr qne qap qle qfu qpc qgd qri qnw qtk qsv ((X0_shareCurrents qph qgr qne qap qle qfu qgd qri qnw qwa qgi qlo qtu n).1) ((X0_shareCurrents qph qgr qne qap qle qfu qgd qri qnw qwa qgi qlo qtu n).2.1) ((X0_shareCurrents qph qgr qne qap qle qfu qgd qri qnw qwa qgi qlo qtu n).2.2.1) ((X0_shareCurrents qph qgr qne qap qle qfu qgd qri qnw qwa qgi qlo qtu n).2.2.2))) A) args s 0 0 A) (F0 m pc ls []) := fun H locs pc ls hS hP hD d => k_vret hx hb hr hlocks hS hP hD d
  generalize MQ below _ _ _ _ _ _ = Q at hret ⊢
  have hin : ∀ w ∈ wsX00, w ∈ wsX0_shareCurrents := by decide +kernel
  have hw0 := hts (.fieldLink RX0 44 "ChargePark" "ruleInUse" "I") (by decide +kernel)
  have hl : lv_has ls 1 [(0, .ref h)] := hl
  have hP : va_P (dC, dI) vwCl (xW cI cZ h a qph qgr qne qap qle qfu qpc qgd qri qnw qtk qsv qwa qgi qlo qtu) s.heap := hP
  have hW : ∀ (H : Heap) (locs : List Loc), va_P (dC, dI) vwCl (xW cI cZ h a qph qgr qne qap qle qfu qpc qgd qri qnw qtk qsv qwa qgi qlo qtu) H → va_D A (xW cI cZ h a qph qgr qne qap qle qfu qpc qgd qri qnw qtk qsv qwa qgi qlo qtu) → va_S A s.heap H locs → W p l e rmX0_shareCurrents s m args below meth c H locs 0 0 Q (F0 m 0 ls []) := by
    intro H locs hP hD hS
    refine lv_aload_n hx hb dX0_shareCurrents_0 rfl (lv_at hl 0 rfl) ?_
    refine k_callv (rest := []) (q0 := 0) hC (c_X0_startShares l dC dI cI cZ h a qph qgr qne qap qle qfu qpc qgd qri qnw qtk qsv qwa qgi qlo qtu n  hpc hn) (cwV 0 hts gX0_shareCurrents_X0_startShares rfl rfl rfl hd_X0_startShares ⟨Nat.le_of_ble_eq_true rfl, Nat.le_of_ble_eq_true rfl⟩) hK hP hD hS hA rfl rfl rfl hl.1 (Nat.le_of_ble_eq_true rfl) dX0_shareCurrents_1 rfl ⟨Nat.zero_le _, Nat.zero_le _⟩ (fun H locs hP hD hS => ?_)
    obtain ⟨z1, hz1⟩ : ∃ z : AR, z = ((X0_startShares qph qgr qne qap qle qnw qwa qgi qlo n).1) := ⟨_, rfl⟩
    rw [← hz1] at hP hD
    obtain ⟨z2, hz2⟩ : ∃ z : AR, z = ((X0_startShares qph qgr qne qap qle qnw qwa qgi qlo n).2.1) := ⟨_, rfl⟩
    rw [← hz2] at hP hD
    obtain ⟨z3, hz3⟩ : ∃ z : AR, z = ((X0_startShares qph qgr qne qap qle qnw qwa qgi qlo n).2.2) := ⟨_, rfl⟩
    rw [← hz3] at hP hD
    have hP : va_P (dC, dI) vwCl (xW cI cZ h a qph qgr qne qap qle qfu qpc qgd qri qnw qtk qsv z1 z2 z3 qtu) H := hP
    have hD : va_D A (xW cI cZ h a qph qgr qne qap qle qfu qpc qgd qri qnw qtk qsv z1 z2 z3 qtu) := hD
    refine lv_aload_n hx hb dX0_shareCurrents_4 rfl (lv_at hl 0 rfl) ?_
    refine va_get (D := (dC, dI)) (ci := 0) (v := .int qri) (C := RX0) (T := TX0) (N := 16) hx hb hts hin hown hK hP 0 rfl rfl 8 (by decide) hw0 (fun _ h9 => h9) rfl dX0_shareCurrents_5 ?_
    refine lv_iconst (v := 1) hx hb dX0_shareCurrents_8 (by decide) ?_
    refine lv_icmp_ne (tgt := 19) hx hb dX0_shareCurrents_9 (by decide) (fun c9 => ?_) (fun c9 => ?_)
    · refine lv_aload_n hx hb dX0_shareCurrents_19 rfl (lv_at hl 0 rfl) ?_
      refine k_callv (rest := []) (q0 := 0) hC (c_X0_shareByLaxity l dC dI cI cZ h a qph qgr qne qap qle qfu qpc qgd qri qnw qtk qsv z1 z2 z3 qtu n  hpc hn) (cwV 0 hts gX0_shareCurrents_X0_shareByLaxity rfl rfl rfl hd_X0_shareByLaxity ⟨Nat.le_of_ble_eq_true rfl, Nat.le_of_ble_eq_true rfl⟩) hK hP hD hS hA rfl rfl rfl hl.1 (Nat.le_of_ble_eq_true rfl) dX0_shareCurrents_20 rfl ⟨Nat.zero_le _, Nat.zero_le _⟩ (fun H locs hP hD hS => ?_)
      obtain ⟨z4, hz4⟩ : ∃ z : AR, z = ((X0_shareByLaxity qph qgr qne qap qle qfu qnw z1 z2 z3 qtu n).1) := ⟨_, rfl⟩
      rw [← hz4] at hP hD
      obtain ⟨z5, hz5⟩ : ∃ z : AR, z = ((X0_shareByLaxity qph qgr qne qap qle qfu qnw z1 z2 z3 qtu n).2.1) := ⟨_, rfl⟩
      rw [← hz5] at hP hD
      obtain ⟨z6, hz6⟩ : ∃ z : AR, z = ((X0_shareByLaxity qph qgr qne qap qle qfu qnw z1 z2 z3 qtu n).2.2) := ⟨_, rfl⟩
      rw [← hz6] at hP hD
      have hP : va_P (dC, dI) vwCl (xW cI cZ h a qph qgr qne qap qle qfu qpc qgd qri qnw qtk qsv z1 z4 z5 z6) H := hP
      have hD : va_D A (xW cI cZ h a qph qgr qne qap qle qfu qpc qgd qri qnw qtk qsv z1 z4 z5 z6) := hD
      refine lv_aload_n hx hb dX0_shareCurrents_23 rfl (lv_at hl 0 rfl) ?_
      refine k_callv (rest := []) (q0 := 0) hC (c_X0_keepBalance l dC dI cI cZ h a qph qgr qne qap qle qfu qpc qgd qri qnw qtk qsv z1 z4 z5 z6 n  hpc hn) (cwV 0 hts gX0_shareCurrents_X0_keepBalance rfl rfl rfl hd_X0_keepBalance ⟨Nat.le_of_ble_eq_true rfl, Nat.le_of_ble_eq_true rfl⟩) hK hP hD hS hA rfl rfl rfl hl.1 (Nat.le_of_ble_eq_true rfl) dX0_shareCurrents_24 rfl ⟨Nat.zero_le _, Nat.zero_le _⟩ (fun H locs hP hD hS => ?_)
      obtain ⟨z7, hz7⟩ : ∃ z : AR, z = ((X0_keepBalance qph qgd z4 z5 n).1) := ⟨_, rfl⟩
      rw [← hz7] at hP hD
      obtain ⟨z8, hz8⟩ : ∃ z : AR, z = ((X0_keepBalance qph qgd z4 z5 n).2) := ⟨_, rfl⟩
      rw [← hz8] at hP hD
      have hP : va_P (dC, dI) vwCl (xW cI cZ h a qph qgr qne qap qle qfu qpc qgd qri qnw qtk qsv z1 z7 z8 z6) H := hP
      have hD : va_D A (xW cI cZ h a qph qgr qne qap qle qfu qpc qgd qri qnw qtk qsv z1 z7 z8 z6) := hD
      subst hz1 hz2 hz3 hz4 hz5 hz6 hz7 hz8
      have hP : va_P (dC, dI) vwCl (xW cI cZ h a qph qgr qne qap qle qfu qpc qgd qri qnw qtk qsv ((X0_shareCurrents qph qgr qne qap qle qfu qgd qri qnw qwa qgi qlo qtu n).1) ((X0_shareCurrents qph qgr qne qap qle qfu qgd qri qnw qwa qgi qlo qtu n).2.1) ((X0_shareCurrents qph qgr qne qap qle qfu qgd qri qnw qwa qgi qlo qtu n).2.2.1) ((X0_shareCurrents qph qgr qne qap qle qfu qgd qri qnw qwa qgi qlo qtu n).2.2.2)) H := by rw [X0_shareCurrents, if_neg c9]; exact hP
      have hD : va_D A (xW cI cZ h a qph qgr qne qap qle qfu qpc qgd qri qnw qtk qsv ((X0_shareCurrents qph qgr qne qap qle qfu qgd qri qnw qwa qgi qlo qtu n).1) ((X0_shareCurrents qph qgr qne qap qle qfu qgd qri qnw qwa qgi qlo qtu n).2.1) ((X0_shareCurrents qph qgr qne qap qle qfu qgd qri qnw qwa qgi qlo qtu n).2.2.1) ((X0_shareCurrents qph qgr qne qap qle qfu qgd qri qnw qwa qgi qlo qtu n).2.2.2)) := by rw [X0_shareCurrents, if_neg c9]; exact hD
      exact hret H locs 27 ls hS hP hD dX0_shareCurrents_27
    · refine lv_aload_n hx hb dX0_shareCurrents_12 rfl (lv_at hl 0 rfl) ?_
      refine k_callv (rest := []) (q0 := 0) hC (c_X0_shareFairly l dC dI cI cZ h a qph qgr qne qap qle qfu qpc qgd qri qnw qtk qsv z1 z2 z3 qtu n  hpc hn) (cwV 0 hts gX0_shareCurrents_X0_shareFairly rfl rfl rfl hd_X0_shareFairly ⟨Nat.le_of_ble_eq_true rfl, Nat.le_of_ble_eq_true rfl⟩) hK hP hD hS hA rfl rfl rfl hl.1 (Nat.le_of_ble_eq_true rfl) dX0_shareCurrents_13 rfl ⟨Nat.zero_le _, Nat.zero_le _⟩ (fun H locs hP hD hS => ?_)
      obtain ⟨z9, hz9⟩ : ∃ z : AR, z = ((X0_shareFairly qph qfu z1 z2 z3 n).1) := ⟨_, rfl⟩
      rw [← hz9] at hP hD
      obtain ⟨z10, hz10⟩ : ∃ z : AR, z = ((X0_shareFairly qph qfu z1 z2 z3 n).2) := ⟨_, rfl⟩
      rw [← hz10] at hP hD
      have hP : va_P (dC, dI) vwCl (xW cI cZ h a qph qgr qne qap qle qfu qpc qgd qri qnw qtk qsv z1 z9 z10 qtu) H := hP
      have hD : va_D A (xW cI cZ h a qph qgr qne qap qle qfu qpc qgd qri qnw qtk qsv z1 z9 z10 qtu) := hD
      refine lv_goto (tgt := 23) hx hb dX0_shareCurrents_16 (by decide) ?_
      refine lv_aload_n hx hb dX0_shareCurrents_23 rfl (lv_at hl 0 rfl) ?_
      refine k_callv (rest := []) (q0 := 0) hC (c_X0_keepBalance l dC dI cI cZ h a qph qgr qne qap qle qfu qpc qgd qri qnw qtk qsv z1 z9 z10 qtu n  hpc hn) (cwV 0 hts gX0_shareCurrents_X0_keepBalance rfl rfl rfl hd_X0_keepBalance ⟨Nat.le_of_ble_eq_true rfl, Nat.le_of_ble_eq_true rfl⟩) hK hP hD hS hA rfl rfl rfl hl.1 (Nat.le_of_ble_eq_true rfl) dX0_shareCurrents_24 rfl ⟨Nat.zero_le _, Nat.zero_le _⟩ (fun H locs hP hD hS => ?_)
      obtain ⟨z11, hz11⟩ : ∃ z : AR, z = ((X0_keepBalance qph qgd z9 z10 n).1) := ⟨_, rfl⟩
      rw [← hz11] at hP hD
      obtain ⟨z12, hz12⟩ : ∃ z : AR, z = ((X0_keepBalance qph qgd z9 z10 n).2) := ⟨_, rfl⟩
      rw [← hz12] at hP hD
      have hP : va_P (dC, dI) vwCl (xW cI cZ h a qph qgr qne qap qle qfu qpc qgd qri qnw qtk qsv z1 z11 z12 qtu) H := hP
      have hD : va_D A (xW cI cZ h a qph qgr qne qap qle qfu qpc qgd qri qnw qtk qsv z1 z11 z12 qtu) := hD
      subst hz1 hz2 hz3 hz9 hz10 hz11 hz12
      have hP : va_P (dC, dI) vwCl (xW cI cZ h a qph qgr qne qap qle qfu qpc qgd qri qnw qtk qsv ((X0_shareCurrents qph qgr qne qap qle qfu qgd qri qnw qwa qgi qlo qtu n).1) ((X0_shareCurrents qph qgr qne qap qle qfu qgd qri qnw qwa qgi qlo qtu n).2.1) ((X0_shareCurrents qph qgr qne qap qle qfu qgd qri qnw qwa qgi qlo qtu n).2.2.1) ((X0_shareCurrents qph qgr qne qap qle qfu qgd qri qnw qwa qgi qlo qtu n).2.2.2)) H := by rw [X0_shareCurrents, if_pos c9]; exact hP
      have hD : va_D A (xW cI cZ h a qph qgr qne qap qle qfu qpc qgd qri qnw qtk qsv ((X0_shareCurrents qph qgr qne qap qle qfu qgd qri qnw qwa qgi qlo qtu n).1) ((X0_shareCurrents qph qgr qne qap qle qfu qgd qri qnw qwa qgi qlo qtu n).2.1) ((X0_shareCurrents qph qgr qne qap qle qfu qgd qri qnw qwa qgi qlo qtu n).2.2.1) ((X0_shareCurrents qph qgr qne qap qle qfu qgd qri qnw qwa qgi qlo qtu n).2.2.2)) := by rw [X0_shareCurrents, if_pos c9]; exact hD
      exact hret H locs 27 ls hS hP hD dX0_shareCurrents_27
  exact hW _ _ hP hD hS
end
