/-! ===== the reference: endangered ===== -/
theorem MOk_low {N : Nat → Int32} {x : Nat} {v : Int32} (h : MOk N) (hx : x < 192) : MOk (upd N x v) := by
  intro f hf
  refine ⟨?_, fun i hi => ?_⟩
  · simp only [upd]; rw [if_neg (by omega), if_neg (by omega)]; exact (h f hf).1
  · simp only [upd]; rw [if_neg (by omega)]; exact (h f hf).2 i hi
theorem upd_back (N : Nat → Int32) (x : Nat) (v : Int32) : upd (upd N x v) x (N x) = N := by
  funext y
  simp only [upd]
  by_cases e : y = x
  · rw [if_pos e, e]
  · rw [if_neg e, if_neg e]
def enC (N : Nat → Int32) (p : Int32) (f : Nat) : Bool := mFi N (nI f) && mSf N f && !mSf (upd N (4 * cl p + 2) 0) f
def vEn (N : Nat → Int32) (p : Int32) : Int32 := if mPe N p then nI (cntB (enC N p) 8) else -10001
