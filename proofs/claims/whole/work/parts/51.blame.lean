/-! ===== a cause, on both sides ===== -/
section
variable {E : mE} {d : Nat} {h : mH} {b : Nat}
theorem Rel_blame {o : Nat → Nat} {z : Nat → Option Nat} {c : Nat} (R : Rel b o z h) (hc : c < 6) : Rel b o z (mts b (blm b h c) c) := by
  obtain ⟨L, r1, r2, r3, r4, r5, r6, r7, r8, r9, r10, r11⟩ := R
  have n : ∀ a, a ≠ b + 13 → a ≠ b + 71 → hI (mts b (blm b h c) c) a = hI h a := fun a h1 h2 => by
    unfold mts blm
    rw [hI_sI_ne _ _ h2, hI_sF, hI_sI_ne _ _ h1, hI_sF]
  have f : ∀ a j, ¬ (a = b ∧ j = 7) → ¬ (a = b + 70 ∧ j = 0) → hF (mts b (blm b h c) c) a j = hF h a j := fun a j h1 h2 => by
    unfold mts blm
    rw [hF_sI, hF_sF, if_neg h2, hF_sI, hF_sF, if_neg h1]
  have nR : ∀ q, q < 24 → hI (mts b (blm b h c) c) (aR b q) = hI h (aR b q) := fun q hq => n _ (by unfold aR; omega) (by unfold aR; omega)
  have nT : ∀ s, s < 4 → hI (mts b (blm b h c) c) (aT b s) = hI h (aT b s) := fun s hs => n _ (by unfold aT; omega) (by unfold aT; omega)
  have L1 : Lay b (blm b h c) := (L.sF 0 7 _ (by decide +kernel)).sI _ _
  have L2 : Lay b (mts b (blm b h c) c) := (L1.sF 70 0 _ (by decide +kernel)).sI _ _
  refine ⟨L2, ?_, ?_, ?_, ?_, ?_, ?_, ?_, ?_, ?_, ?_, ?_⟩
  · intro q hq
    rw [f _ _ (by omega) (by omega)]
    exact r1 q hq
  · intro q hq
    rw [n _ (by omega) (by omega)]
    exact r2 q hq
  · intro s hs
    rw [f _ _ (by omega) (by omega)]
    exact r3 s hs
  · intro s hs
    rw [n (b + 72) (by omega) (by omega), n (b + 73) (by omega) (by omega)]
    exact r4 s hs
  · intro q hq
    rw [n (b + 77) (by omega) (by omega), nR q hq]
    exact r5 q hq
  · intro s hs
    rw [n (b + 74) (by omega) (by omega), nT s hs]
    exact r6 s hs
  · intro s hs
    rw [n (b + 72) (by omega) (by omega), f _ _ (by omega) (by omega)]
    exact r7 s hs
  · refine ⟨nI c, ?_, ?_⟩
    · unfold mts blm
      rw [hF_sI, hF_sF, if_neg (by omega), hF_sI, hF_sF, if_pos ⟨rfl, rfl⟩]
    · unfold mts
      rw [hF_sI, hF_sF, if_pos ⟨rfl, rfl⟩]
  · intro x hx
    have e1 : hI (mts b (blm b h c) c) (b + 13) = upd (hI h (b + 13)) c (hI h (b + 13) c + 1) := by
      unfold mts blm
      rw [hI_sI_ne _ _ (by omega), hI_sF, hI_sI_same]
    have e2 : hI (mts b (blm b h c) c) (b + 71) = upd (hI h (b + 71)) c (hI h (b + 71) c + 1) := by
      have e3 : hI (blm b h c) (b + 71) = hI h (b + 71) := by
        unfold blm
        rw [hI_sI_ne _ _ (by omega), hI_sF]
      unfold mts
      rw [hI_sI_same, e3]
    rw [e1, e2]
    unfold upd
    rw [r9 c hc, r9 x hx]
  · rw [f b 8 (by omega) (by omega), f (b + 70) 13 (by omega) (by omega)]
    exact r10
  · rw [f (b + 8) 3 (by omega) (by omega), f (b + 70) 12 (by omega) (by omega)]
    exact r11
end
