/-! ===== a number of a sheet ===== -/
section
variable {E : mE} {d : Nat} {h : mH} {b : Nat}
theorem shC (s : Int32) : cal E (d + 1) kX3_isSheet [.int s] h = some (some (.int (if s < 0 ∨ nI 4 ≤ s then 0 else 1)), h) := by
  rw [c_X3_isSheet]
  have e4 : (4 : Int32) = nI 4 := rfl
  rw [e4]
  by_cases c1 : s < 0 <;> by_cases c2 : nI 4 ≤ s <;> simp [c1, c2]
theorem shM (s : Int32) : cal E (d + 2) kX4_isSheet [.int s] h = some (some (.int (if s < 0 ∨ nI 4 ≤ s then 0 else 1)), h) := by
  rw [c_X4_isSheet]
  have j1 : (0 ≤ s) ↔ ¬ s < 0 := by rw [n32_lt]
  have j2 : (s ≤ 3) ↔ ¬ nI 4 ≤ s := by
    rw [n32_le, Int32.le_iff_toInt_le, Int32.lt_iff_toInt_lt]
    have e3 : (3 : Int32).toInt = 3 := rfl
    have e4 : (nI 4).toInt = 4 := rfl
    omega
  by_cases c1 : s < 0 <;> by_cases c2 : nI 4 ≤ s <;> simp [j1, j2, c1, c2]
theorem pfS2 : ∀ s, s < 4 → PF (14 + 2 * s) 2 = none := by decide +kernel
theorem Rel_lose {o : Nat → Nat} {z : Nat → Option Nat} {k : Nat} (R : Rel b o z h) (hk : k < 4) : Rel b o (fu z k none) (sI (sF h (aS b k) 2 (.int (-1))) (b + 72) (upd (hI h (b + 72)) k (-1))) := by
  obtain ⟨L, r1, r2, r3, r4, r5, r6, r7, r8, r9, r10, r11⟩ := R
  have n : ∀ a, a ≠ b + 72 → hI (sI (sF h (aS b k) 2 (.int (-1))) (b + 72) (upd (hI h (b + 72)) k (-1))) a = hI h a := fun a ha => hI_sI_ne (sF h (aS b k) 2 (.int (-1))) _ ha
  have f : ∀ a j, ¬ (a = aS b k ∧ j = 2) → hF (sI (sF h (aS b k) 2 (.int (-1))) (b + 72) (upd (hI h (b + 72)) k (-1))) a j = hF h a j := fun a j ha => by
    rw [hF_sI, hF_sF, if_neg ha]
  have u : ∀ x, hI (sI (sF h (aS b k) 2 (.int (-1))) (b + 72) (upd (hI h (b + 72)) k (-1))) (b + 72) x = if x = k then -1 else hI h (b + 72) x := fun x => by
    rw [hI_sI_same]; rfl
  refine ⟨(L.sF (14 + 2 * k) 2 _ (pfS2 k hk)).sI _ _, ?_, ?_, ?_, ?_, ?_, ?_, ?_, ?_, ?_, ?_, ?_⟩
  · intro q hq
    rw [f _ _ (by unfold aQ aS; omega)]
    exact r1 q hq
  · intro q hq
    rw [n _ (by omega)]
    exact r2 q hq
  · intro s hs
    unfold fu
    by_cases c : s = k
    · subst c
      rw [if_pos rfl, hF_sI, hF_sF, if_pos ⟨rfl, rfl⟩]
      exact ⟨rfl, by decide⟩
    · rw [if_neg c, f _ _ (by unfold aS; omega)]
      exact r3 s hs
  · intro s hs
    rw [u, n (b + 73) (by omega)]
    unfold fu
    by_cases c : s = k
    · rw [if_pos c, if_pos c]
      exact ⟨⟨fun _ => rfl, fun _ => rfl⟩, (fun m hm => by cases hm), by decide⟩
    · rw [if_neg c, if_neg c]
      exact r4 s hs
  · intro q hq
    rw [n (b + 77) (by omega), n (aR b q) (by unfold aR; omega)]
    exact r5 q hq
  · intro s hs
    rw [n (b + 74) (by omega), n (aT b s) (by unfold aT; omega)]
    exact r6 s hs
  · intro s hs
    rw [u, f _ _ (by omega)]
    unfold fu
    by_cases c : s = k
    · rw [if_pos c]
      exact fun q => absurd rfl q
    · rw [if_neg c, if_neg c]
      exact r7 s hs
  · rw [f b 7 (by omega), f (b + 70) 0 (by omega)]
    exact r8
  · intro c hc
    rw [n (b + 13) (by omega), n (b + 71) (by omega)]
    exact r9 c hc
  · rw [f b 8 (by omega), f (b + 70) 13 (by omega)]
    exact r10
  · rw [f (b + 8) 3 (by omega), f (b + 70) 12 (by omega)]
    exact r11
end
