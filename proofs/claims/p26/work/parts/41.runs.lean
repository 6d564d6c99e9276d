def uZ : AR := fun _ => 0
def uF0 : AR := upd (upd (upd (fun _ => 0) (0 : Int32).toNatClampNeg 32) (1 : Int32).toNatClampNeg 32) (2 : Int32).toNatClampNeg 32
section
variable {n : Nat} {qph qgr qne qap qle qfu : AR} {qpc qgd qri qnw qtk qsv : Int32}
theorem X0_point_eq {f g : Int32} (h : X0_point_T qpc n f g = 0) : X0_point qph qgr qne qpc n f g = (qpc, (upd qph qpc.toNatClampNeg f), (upd qgr qpc.toNatClampNeg g), (upd qne qpc.toNatClampNeg (-1)), (qpc + 1)) := by
  rw [X0_point_T] at h; rw [X0_point]
  repeat' split at h
  all_goals first | (exfalso; revert h; decide) | (simp only [*, if_true, if_false, ↓reduceIte])
theorem X0_fuse_eq {f x : Int32} (h : X0_fuse_T f x = 0) : X0_fuse qfu f x = ((qfu f.toNatClampNeg), (upd qfu f.toNatClampNeg x)) := by
  rw [X0_fuse_T] at h; rw [X0_fuse]
  repeat' split at h
  all_goals first | (exfalso; revert h; decide) | (simp only [*, if_true, if_false, ↓reduceIte])
theorem X0_plugIn_eq {i nd x sp : Int32} (h : X0_plugIn_T qne qpc n i nd x sp = 0) : X0_plugIn qph qgr qne qap qle qpc qnw n i nd x sp = ((X0_laxityAt qph qgr (upd qne i.toNatClampNeg nd) (upd qap i.toNatClampNeg x) (upd qle i.toNatClampNeg (qnw + sp)) qnw i), (upd qne i.toNatClampNeg nd), (upd qap i.toNatClampNeg x), (upd qle i.toNatClampNeg (qnw + sp))) := by
  rw [X0_plugIn_T] at h; rw [X0_plugIn]
  repeat' split at h
  all_goals first | (exfalso; revert h; decide) | (simp only [*, if_true, if_false, ↓reduceIte])
theorem X0_takeOut_ne {i : Int32} (h : X0_takeOut_T qne qpc n i = 0) : (X0_takeOut qne qpc qsv n i).2.1 = upd qne i.toNatClampNeg (-1) := by
  rw [X0_takeOut_T] at h; rw [X0_takeOut]
  repeat' split at h
  all_goals first | (exfalso; revert h; decide) | (simp only [*, if_true, if_false, ↓reduceIte]; split <;> rfl)
theorem X0_takeOut_v {i : Int32} (h : X0_takeOut_T qne qpc n i = 0) : (X0_takeOut qne qpc qsv n i).1 = qne i.toNatClampNeg := by
  rw [X0_takeOut_T] at h; rw [X0_takeOut]
  repeat' split at h
  all_goals first | (exfalso; revert h; decide) | (simp only [*, if_true, if_false, ↓reduceIte]; split <;> rfl)
theorem X0_appetite_eq {i x : Int32} (h : X0_appetite_T qne qpc n i x = 0) : X0_appetite qne qap qpc n i x = ((qap i.toNatClampNeg), (upd qap i.toNatClampNeg x)) := by
  rw [X0_appetite_T] at h; rw [X0_appetite]
  repeat' split at h
  all_goals first | (exfalso; revert h; decide) | (simp only [*, if_true, if_false, ↓reduceIte])
theorem X0_stay_eq {i x : Int32} (h : X0_stay_T qne qpc n i x = 0) : X0_stay qne qle qpc qnw n i x = ((X0_stepsLeftAt (upd qle i.toNatClampNeg ((if (qle i.toNatClampNeg) < qnw then qnw else (qle i.toNatClampNeg)) + x)) qnw i), (upd qle i.toNatClampNeg ((if (qle i.toNatClampNeg) < qnw then qnw else (qle i.toNatClampNeg)) + x))) := by
  rw [X0_stay_T] at h; rw [X0_stay]
  repeat' split at h
  all_goals first | (exfalso; revert h; decide) | (simp only [*, if_true, if_false, ↓reduceIte])
end
