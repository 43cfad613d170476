/-! ===== a new square, on both sides ===== -/
section
variable {E : mE} {d : Nat} {h : mH} {b : Nat}
theorem Rel_kept {hA hB : mH} {o : Nat → Nat} {z : Nat → Option Nat} {q n : Nat} (R : Rel b o z hA) (hq : q < 24) (hn : n ≤ 12) (LB : Lay b hB) (hIs : ∀ a, a ≠ b + 80 → hI hB a = hI (kept b hA q n) a) (hFs : ∀ a j, ¬ (a = b + 70 ∧ j = 8) → hF hB a j = hF (kept b hA q n) a j) (hrow : ∀ p, p < n * n → hJ hB (b + 78) p = (hI hA (b + 4) p).toInt64) (hbd : bd (hI hA (b + 4)) (n * n)) (hcp : ∀ p, p < n * n → va_cpy (hI hA (b + 4)) (hI hA (aR b q)) 0 0 144 p = hI hA (b + 4) p) : Rel b (fu o q n) z (sI (sI hB (b + 76) (upd (hI hB (b + 76)) q (nI n))) (b + 77) (bdy (hJ hB (b + 78)) (hI hB (b + 77)) q (n * n))) := by
  obtain ⟨L, r1, r2, r3, r4, r5, r6, r7, r8, r9, r10, r11⟩ := R
  have qn : n * n ≤ 144 := Nat.mul_le_mul hn hn
  have kI : ∀ a, a ≠ aR b q → hI (kept b hA q n) a = hI hA a := fun a ha => by unfold kept; rw [hI_sI_ne _ _ ha, hI_sF]
  have kR : hI (kept b hA q n) (aR b q) = va_cpy (hI hA (b + 4)) (hI hA (aR b q)) 0 0 144 := by unfold kept; rw [hI_sI_same]
  have kF : ∀ a j, hF (kept b hA q n) a j = if a = aQ b q ∧ j = 1 then .int (nI n) else hF hA a j := fun a j => by unfold kept; rw [hF_sI, hF_sF]
  have n1 : ∀ a, a ≠ b + 76 → a ≠ b + 77 → a ≠ b + 80 → a ≠ aR b q → hI (sI (sI hB (b + 76) (upd (hI hB (b + 76)) q (nI n))) (b + 77) (bdy (hJ hB (b + 78)) (hI hB (b + 77)) q (n * n))) a = hI hA a := fun a h1 h2 h3 h4 => by
    rw [hI_sI_ne _ _ h2, hI_sI_ne _ _ h1, hIs a h3, kI a h4]
  have f1 : ∀ a j, ¬ (a = b + 70 ∧ j = 8) → hF (sI (sI hB (b + 76) (upd (hI hB (b + 76)) q (nI n))) (b + 77) (bdy (hJ hB (b + 78)) (hI hB (b + 77)) q (n * n))) a j = if a = aQ b q ∧ j = 1 then .int (nI n) else hF hA a j := fun a j ha => by
    rw [hF_sI, hF_sI, hFs a j ha, kF]
  have f2 : ∀ a j, ¬ (a = b + 70 ∧ j = 8) → ¬ (a = aQ b q ∧ j = 1) → hF (sI (sI hB (b + 76) (upd (hI hB (b + 76)) q (nI n))) (b + 77) (bdy (hJ hB (b + 78)) (hI hB (b + 77)) q (n * n))) a j = hF hA a j := fun a j ha hb => by
    rw [f1 a j ha, if_neg hb]
  have o76 : hI (sI (sI hB (b + 76) (upd (hI hB (b + 76)) q (nI n))) (b + 77) (bdy (hJ hB (b + 78)) (hI hB (b + 77)) q (n * n))) (b + 76) = upd (hI hA (b + 76)) q (nI n) := by
    rw [hI_sI_ne _ _ (by omega), hI_sI_same, hIs _ (by omega), kI _ (by unfold aR; omega)]
  have o77 : hI (sI (sI hB (b + 76) (upd (hI hB (b + 76)) q (nI n))) (b + 77) (bdy (hJ hB (b + 78)) (hI hB (b + 77)) q (n * n))) (b + 77) = bdy (hJ hB (b + 78)) (hI hA (b + 77)) q (n * n) := by
    rw [hI_sI_same, hIs _ (by omega), kI _ (by unfold aR; omega)]
  refine ⟨(LB.sI _ _).sI _ _, ?_, ?_, ?_, ?_, ?_, ?_, ?_, ?_, ?_, ?_, ?_⟩
  · intro x hx
    unfold fu
    by_cases c : x = q
    · subst c
      rw [if_pos rfl, f1 _ _ (by unfold aQ; omega), if_pos ⟨rfl, rfl⟩]
      exact ⟨rfl, hn⟩
    · rw [if_neg c, f2 _ _ (by unfold aQ; omega) (by unfold aQ; omega)]
      exact r1 x hx
  · intro x hx
    rw [o76]
    unfold fu upd
    by_cases c : x = q
    · rw [if_pos c, if_pos c]
      exact ⟨rfl, hn⟩
    · rw [if_neg c, if_neg c]
      exact r2 x hx
  · intro s hs
    rw [f2 _ _ (by omega) (by omega)]
    exact r3 s hs
  · intro s hs
    rw [n1 (b + 72) (by omega) (by omega) (by omega) (by unfold aR; omega), n1 (b + 73) (by omega) (by omega) (by omega) (by unfold aR; omega)]
    exact r4 s hs
  · intro x hx
    rw [o77]
    unfold fu
    by_cases c : x = q
    · subst c
      rw [if_pos rfl]
      have e1 : hI (sI (sI hB (b + 76) (upd (hI hB (b + 76)) x (nI n))) (b + 77) (bdy (hJ hB (b + 78)) (hI hB (b + 77)) x (n * n))) (aR b x) = va_cpy (hI hA (b + 4)) (hI hA (aR b x)) 0 0 144 := by
        rw [hI_sI_ne _ _ (by unfold aR; omega), hI_sI_ne _ _ (by unfold aR; omega), hIs _ (by unfold aR; omega), kR]
      rw [e1]
      refine ⟨fun p hp => ?_, fun p hp => ?_⟩
      · show va_cpy _ _ 0 0 144 p = bdy _ _ x (n * n) (144 * x + p)
        rw [hcp p hp]
        unfold bdy
        rw [if_pos (by omega), Nat.add_sub_cancel_left, hrow p hp, t32]
      · rw [hcp p hp]
        exact hbd p hp
    · rw [if_neg c, n1 (aR b x) (by unfold aR; omega) (by unfold aR; omega) (by unfold aR; omega) (by unfold aR; omega)]
      refine ⟨fun p hp => ?_, (r5 x hx).2⟩
      have hox := (r1 x hx).2
      have q2 : o x * o x ≤ 144 := Nat.mul_le_mul hox hox
      show hI hA (aR b x) p = bdy _ _ q (n * n) (144 * x + p)
      unfold bdy
      rw [if_neg (by omega)]
      exact (r5 x hx).1 p hp
  · intro s hs
    rw [n1 (b + 74) (by omega) (by omega) (by omega) (by unfold aR; omega), n1 (aT b s) (by unfold aT; omega) (by unfold aT; omega) (by unfold aT; omega) (by unfold aT aR; omega)]
    exact r6 s hs
  · intro s hs
    rw [n1 (b + 72) (by omega) (by omega) (by omega) (by unfold aR; omega), f2 _ _ (by unfold aS; omega) (by unfold aS aQ; omega)]
    exact r7 s hs
  · rw [f2 b 7 (by omega) (by omega), f2 (b + 70) 0 (by omega) (by omega)]
    exact r8
  · intro c hc
    rw [n1 (b + 13) (by omega) (by omega) (by omega) (by unfold aR; omega), n1 (b + 71) (by omega) (by omega) (by omega) (by unfold aR; omega)]
    exact r9 c hc
  · rw [f2 b 8 (by omega) (by omega), f2 (b + 70) 13 (by omega) (by omega)]
    exact r10
  · rw [f2 (b + 8) 3 (by omega) (by omega), f2 (b + 70) 12 (by omega) (by omega)]
    exact r11
end
