/-! ===== cells that may change freely; keeping on both sides ===== -/
section
variable {E : mE} {d : Nat} {h h1 h2 : mH} {b : Nat}
/-- all cells that the relation reads are the same -/
def scr (b : Nat) (h h' : mH) : Prop := Lay b h' ∧ (∀ a, (a = b + 13 ∨ (b + 14 ≤ a ∧ a < b + 75) ∨ a = b + 76 ∨ a = b + 77) → hI h' a = hI h a) ∧ (∀ a j, (a = b ∨ a = b + 8 ∨ (b + 14 ≤ a ∧ a < b + 70) ∨ (a = b + 70 ∧ j ≠ 8)) → hF h' a j = hF h a j)
theorem scr_refl (L : Lay b h) : scr b h h := ⟨L, fun _ _ => rfl, fun _ _ _ => rfl⟩
theorem scr_trans (a : scr b h h1) (c : scr b h1 h2) : scr b h h2 := ⟨c.1, fun x hx => (c.2.1 x hx).trans (a.2.1 x hx), fun x j hx => (c.2.2 x j hx).trans (a.2.2 x j hx)⟩
theorem scr_sI (L : Lay b h) {a : Nat} (f : Nat → Int32) (ha : ¬ (a = b + 13 ∨ (b + 14 ≤ a ∧ a < b + 75) ∨ a = b + 76 ∨ a = b + 77)) : scr b h (sI h a f) := ⟨L.sI _ _, fun x hx => hI_sI_ne h _ (fun e => ha (e ▸ hx)), fun _ _ _ => rfl⟩
theorem scr_sJ (L : Lay b h) {a : Nat} (f : Nat → Int64) : scr b h (sJ h a f) := ⟨L.sJ _ _, fun _ _ => rfl, fun _ _ _ => rfl⟩
theorem scr_sF (L : Lay b h) {k j : Nat} (v : Value) (hk : (k = 3 ∨ k = 5 ∨ k = 9) ∧ j = 1 ∨ k = 70 ∧ j = 8) : scr b h (sF h (b + k) j v) := by
  refine ⟨L.sF k j v ?_, fun _ _ => rfl, fun a x hx => ?_⟩
  · rcases hk with ⟨rfl | rfl | rfl, rfl⟩ | ⟨rfl, rfl⟩ <;> decide +kernel
  · rw [hF_sF, if_neg]
    rintro ⟨rfl, rfl⟩
    omega
theorem Rel_scr' {o : Nat → Nat} {z : Nat → Option Nat} (R : Rel b o z h) (s : scr b h h1) : Rel b o z h1 := by
  obtain ⟨L, r1, r2, r3, r4, r5, r6, r7, r8, r9, r10, r11⟩ := R
  obtain ⟨L', n, f⟩ := s
  refine ⟨L', ?_, ?_, ?_, ?_, ?_, ?_, ?_, ?_, ?_, ?_, ?_⟩
  · intro q hq
    rw [f _ _ (by unfold aQ; omega)]
    exact r1 q hq
  · intro q hq
    rw [n _ (by omega)]
    exact r2 q hq
  · intro s hs
    rw [f _ _ (by unfold aS; omega)]
    exact r3 s hs
  · intro s hs
    rw [n (b + 72) (by omega), n (b + 73) (by omega)]
    exact r4 s hs
  · intro q hq
    rw [n (b + 77) (by omega), n (aR b q) (by unfold aR; omega)]
    exact r5 q hq
  · intro s hs
    rw [n (b + 74) (by omega), n (aT b s) (by unfold aT; omega)]
    exact r6 s hs
  · intro s hs
    rw [n (b + 72) (by omega), f _ _ (by unfold aS; omega)]
    exact r7 s hs
  · rw [f b 7 (by omega), f (b + 70) 0 (by omega)]
    exact r8
  · intro c hc
    have e13 := n (b + 13) (Or.inl rfl)
    rw [e13, n (b + 71) (by omega)]
    exact r9 c hc
  · rw [f b 8 (by omega), f (b + 70) 13 (by omega)]
    exact r10
  · rw [f (b + 8) 3 (by omega), f (b + 70) 12 (by omega)]
    exact r11
theorem scr_mts {c : Nat} (s : scr b h h1) : scr b (mts b h c) (mts b h1 c) := by
  obtain ⟨L', n, f⟩ := s
  refine ⟨(L'.sF 70 0 _ (by decide +kernel)).sI _ _, fun a ha => ?_, fun a j ha => ?_⟩
  · unfold mts
    rw [n (b + 71) (by omega)]
    by_cases c : a = b + 71
    · rw [c, hI_sI_same, hI_sI_same]
    · rw [hI_sI_ne _ _ c, hI_sI_ne _ _ c, hI_sF, hI_sF]
      exact n a ha
  · unfold mts
    rw [hF_sI, hF_sI, hF_sF, hF_sF, f a j ha]
/-- what the class keeps the reference keeps -/
theorem op_keep {hA : mH} {o : Nat → Nat} {z : Nat → Option Nat} {n : Nat} (R : Rel b o z hA) (hd : hF hA (b + 3) 1 = .int (nI n)) (hn : n ≤ 12) : ∃ r k1, (∀ E d, cal E (d + 2) kX3_keepDraft [.ref b] hA = some (some (.int r), k1)) ∧ mSame b hA k1 ∧ sameF b hA k1 ∧ ∀ hB, scr b k1 hB → hF hB (b + 70) 8 = .int (nI n) → (∀ p, p < n * n → hJ hB (b + 78) p = (hI hA (b + 4) p).toInt64) → ∃ k2 o', (∀ E d, cal E (d + 2) kX4_comes [.ref (b + 70)] hB = some (some (.int r), k2)) ∧ Rel b o' z k2 ∧ sameF b hB k2 := by
  have R' := R
  obtain ⟨L, ho, hm, _⟩ := R'
  have eC := fun E d => c_X3_keepDraft (E := E) (d := d) L ho hd hn
  have gr : ∀ hB : mH, (∀ p, p < n * n → hJ hB (b + 78) p = (hI hA (b + 4) p).toInt64) → an (grl (hJ hB (b + 78))) (n * n) 0 = an (grp (hI hA (b + 4))) (n * n) 0 := fun hB hrow => an_cg fun j _ h2 => gr_same (hrow j (by omega))
  by_cases c : an (grp (hI hA (b + 4))) (n * n) 0 = true
  · simp only [if_pos c] at eC
    refine ⟨-15, blm b hA 5, eC, mSame_blm L, sameF_blm, fun hB s hs hrow => ?_⟩
    have oB : oM b hB o := fun q hq => by
      rw [s.2.1 (b + 76) (by omega)]
      exact oM_same (mSame_blm L) hm q hq
    refine ⟨mts b hB 5, o, fun E d => ?_, Rel_scr' (Rel_blame R (by decide)) (scr_mts s), sameF_mts⟩
    rw [c_X4_comes s.1 oB hs hn, gr hB hrow, if_pos c]
  · simp only [if_neg c] at eC
    have cf : an (grp (hI hA (b + 4))) (n * n) 0 = false := by cases e : an (grp (hI hA (b + 4))) (n * n) 0 with
      | true => exact absurd e c
      | false => rfl
    cases hfr : fr o 24 0 with
    | none =>
      simp only [hfr] at eC
      refine ⟨-104, hA, eC, mSame_refl L, sameF_refl, fun hB s hs hrow => ?_⟩
      have oB : oM b hB o := fun q hq => by
        rw [s.2.1 (b + 76) (by omega)]
        exact hm q hq
      refine ⟨hB, o, fun E d => ?_, Rel_scr' R s, sameF_refl⟩
      rw [c_X4_comes s.1 oB hs hn, gr hB hrow, if_neg c, hfr]
      rfl
    | some q =>
      have hq : q < 24 := by
        have := (fs_some hfr).2.1
        omega
      simp only [hfr] at eC
      refine ⟨nI q, kept b hA q n, eC, mSame_kept L hq, sameF_kept hq, fun hB s hs hrow => ?_⟩
      have oB : oM b hB o := fun x hx => by
        rw [s.2.1 (b + 76) (by omega)]
        exact oM_same (mSame_kept L hq) hm x hx
      have qn : n * n ≤ 144 := Nat.mul_le_mul hn hn
      have LK := (mSame_kept (n := n) L hq).1
      have rk := Rel_kept (hB := sJ (kept b hA q n) (b + 78) (hJ hB (b + 78))) R hq hn (LK.sJ _ _) (fun _ _ => rfl) (fun _ _ _ => rfl) (by rw [hJ_sJ_same]; exact hrow) (fun p hp => not_great cf (Nat.zero_add _) p (by omega) hp) (fun p hp => by
        unfold va_cpy
        rw [if_pos (by omega)]
        congr 1
        omega)
      refine ⟨sI (sI hB (b + 76) (upd (hI hB (b + 76)) q (nI n))) (b + 77) (bdy (hJ hB (b + 78)) (hI hB (b + 77)) q (n * n)), fu o q n, fun E d => ?_, Rel_scr' rk ?_, ?_⟩
      · rw [c_X4_comes s.1 oB hs hn, gr hB hrow, if_neg c, hfr]
        rfl
      · refine ⟨(s.1.sI _ _).sI _ _, fun a ha => ?_, fun a j ha => ?_⟩
        · rw [s.2.1 (b + 76) (by omega), s.2.1 (b + 77) (by omega), hJ_sJ_same, hI_sJ]
          by_cases c7 : a = b + 77
          · rw [c7, hI_sI_same, hI_sI_same]
          · rw [hI_sI_ne _ _ c7, hI_sI_ne _ _ c7]
            by_cases c6 : a = b + 76
            · rw [c6, hI_sI_same, hI_sI_same]
            · rw [hI_sI_ne _ _ c6, hI_sI_ne _ _ c6, hI_sJ]
              exact s.2.1 a ha
        · rw [hF_sI, hF_sI, hF_sI, hF_sI, hF_sJ]
          exact s.2.2 a j ha
      · exact sameF_trans (sameF_sI _ (by omega)) (sameF_sI _ (by omega))
/-- a call of both sides: the same answer, and the relation stands behind it -/
def Good (E : mE) (d b kc km : Nat) (as : List Value) (h : mH) : Prop := ∃ h2 o' z', Op E d b kc km as h h2 ∧ Rel b o' z' h2 ∧ sameF b h h2
end
