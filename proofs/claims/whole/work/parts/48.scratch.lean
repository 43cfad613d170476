/-! ===== cells that nobody reads ===== -/
section
variable {E : mE} {d : Nat} {h : mH} {b : Nat}
theorem Rel_scr {o : Nat → Nat} {z : Nat → Option Nat} {k : Nat} (f : Nat → Int32) (R : Rel b o z h) (hk : k ≤ 12 ∨ k = 75 ∨ 78 ≤ k) : Rel b o z (sI h (b + k) f) := by
  obtain ⟨L, r1, r2, r3, r4, r5, r6, r7, r8, r9, r10, r11⟩ := R
  have n : ∀ j, j ≠ k → hI (sI h (b + k) f) (b + j) = hI h (b + j) := fun j hj => hI_sI_ne h _ (by omega)
  have nR : ∀ q, q < 24 → hI (sI h (b + k) f) (aR b q) = hI h (aR b q) := fun q hq => hI_sI_ne h _ (by unfold aR; omega)
  have nT : ∀ s, s < 4 → hI (sI h (b + k) f) (aT b s) = hI h (aT b s) := fun s hs => hI_sI_ne h _ (by unfold aT; omega)
  refine ⟨L.sI _ _, r1, ?_, r3, ?_, ?_, ?_, ?_, r8, ?_, r10, r11⟩
  · intro q hq
    rw [n 76 (by omega)]
    exact r2 q hq
  · intro s hs
    rw [n 72 (by omega), n 73 (by omega)]
    exact r4 s hs
  · intro q hq
    rw [n 77 (by omega), nR q hq]
    exact r5 q hq
  · intro s hs
    rw [n 74 (by omega), nT s hs]
    exact r6 s hs
  · intro s hs
    rw [n 72 (by omega)]
    exact r7 s hs
  · intro c hc
    rw [n 13 (by omega), n 71 (by omega)]
    exact r9 c hc
theorem Rel_scrJ {o : Nat → Nat} {z : Nat → Option Nat} {a : Nat} (f : Nat → Int64) (R : Rel b o z h) : Rel b o z (sJ h a f) := by
  obtain ⟨L, R'⟩ := R
  exact ⟨L.sJ _ _, R'⟩
end
