/-! ===== seek, on both sides ===== -/
section
variable {E : mE} {d : Nat} {h h1 h2 : mH} {b : Nat}
/-- what was found, on both sides -/
def FND (b Z n : Nat) (K : List Nat) (h : mH) : Prop := (1 ≤ n ∧ n ≤ 4) ∧ FK b Z n K h ∧ sor K ∧ (∀ κ ∈ K, ∃ f, (∀ p, p < n * n → 1 ≤ f p ∧ f p ≤ n * n) ∧ kyr f (n * n) = κ) ∧ K.length ≤ 7200 ∧ hF h (b + 8) 5 = .int (nI n) ∧ hF h (b + 8) 6 = .int (nI (n * n)) ∧ hF h (b + 70) 12 = .int (nI K.length) ∧ hF h (b + 70) 15 = .int (nI n) ∧ ∀ j, j < K.length → ∀ c, c < n * n → hI h (b + 81) (16 * j + c) = nI (kdg (K.getD j 0) (n * n) c + 1)
def FI (b Z : Nat) (h : mH) : Prop := (∃ wd : Bool, hF h b 9 = .int (if wd = true then 1 else 0) ∧ hF h (b + 70) 14 = .int (if wd = true then 1 else 0)) ∧ KR b Z h ∧ ((hF h (b + 8) 3 = .int (-1) ∧ hF h (b + 70) 12 = .int (-1)) ∨ ∃ n K, FND b Z n K h)
theorem FK_same {Z n : Nat} {K : List Nat} (F : FK b Z n K h) (s : sameF b h h1) : FK b Z n K h1 := by
  obtain ⟨g, ka, g8, f2, k1, hka, kN, eN, eZ, len, dat, f3, f4⟩ := F
  obtain ⟨s1, s2, s3, s4, s5, s6, s7, s8⟩ := s
  exact ⟨g, ka, g8, by rw [s1]; exact f2, by rw [s6]; exact k1, hka, by rw [s7]; exact kN, by rw [s7]; exact eN, by rw [s8]; exact eZ, len, fun j hj => by rw [s2 ka (by omega)]; exact dat j hj, by rw [s1]; exact f3, by rw [s1]; exact f4⟩
theorem FI_same {Z : Nat} (F : FI b Z h) (s : sameF b h h1) : FI b Z h1 := by
  obtain ⟨⟨wd, w1, w2⟩, ⟨g, ka, g8, f2, k1, hka, kN, eN, eZ⟩, fd⟩ := F
  have s' := s
  obtain ⟨s1, s2, s3, s4, s5, s6, s7, s8⟩ := s'
  refine ⟨⟨wd, by rw [s5]; exact w1, by rw [s4 14 (by omega) (by omega)]; exact w2⟩, ⟨g, ka, g8, by rw [s1]; exact f2, by rw [s6]; exact k1, hka, by rw [s7]; exact kN, by rw [s7]; exact eN, by rw [s8]; exact eZ⟩, ?_⟩
  rcases fd with ⟨x1, x2⟩ | ⟨n, K, hn, F, sK, kS, l72, x5, x6, x12, x15, rows⟩
  · exact Or.inl ⟨by rw [s1]; exact x1, by rw [s4 12 (by omega) (by omega)]; exact x2⟩
  · refine Or.inr ⟨n, K, hn, FK_same F s, sK, kS, l72, by rw [s1]; exact x5, by rw [s1]; exact x6, by rw [s4 12 (by omega) (by omega)]; exact x12, by rw [s4 15 (by omega) (by omega)]; exact x15, fun j hj c hc => ?_⟩
    rw [s3]
    exact rows j hj c hc
/-- the relation where seeking has changed what was found -/
theorem Rel_seek {H : mH} {o : Nat → Nat} {z : Nat → Option Nat} (R : Rel b o z h) (LH : Lay b H) (n : ∀ a, (a = b + 13 ∨ (b + 14 ≤ a ∧ a < b + 75) ∨ a = b + 76 ∨ a = b + 77) → hI H a = hI h a) (f : ∀ a j, (b + 14 ≤ a ∧ a < b + 70) ∨ (a = b ∧ j = 7) ∨ (a = b + 70 ∧ j = 0) → hF H a j = hF h a j) (x10 : ∃ k, k ≤ 12 ∧ hF H b 8 = .int (nI k) ∧ hF H (b + 70) 13 = .int (nI k)) (x11 : ∃ g, hF H (b + 8) 3 = .int g ∧ hF H (b + 70) 12 = .int g) : Rel b o z H := by
  obtain ⟨L, r1, r2, r3, r4, r5, r6, r7, r8, r9, r10, r11⟩ := R
  refine ⟨LH, ?_, ?_, ?_, ?_, ?_, ?_, ?_, ?_, ?_, x10, x11⟩
  · intro q hq
    rw [f _ _ (by unfold aQ; omega)]
    exact r1 q hq
  · intro q hq
    rw [n _ (by omega)]
    exact r2 q hq
  · intro s hs
    rw [f _ _ (by unfold aS; omega)]
    exact r3 s hs
  · intro s hs
    rw [n (b + 72) (by omega), n (b + 73) (by omega)]
    exact r4 s hs
  · intro q hq
    rw [n (b + 77) (by omega), n (aR b q) (by unfold aR; omega)]
    exact r5 q hq
  · intro s hs
    rw [n (b + 74) (by omega), n (aT b s) (by unfold aT; omega)]
    exact r6 s hs
  · intro s hs
    rw [n (b + 72) (by omega), f _ _ (by unfold aS; omega)]
    exact r7 s hs
  · rw [f b 7 (by omega), f (b + 70) 0 (by omega)]
    exact r8
  · intro c hc
    have e13 := n (b + 13) (Or.inl rfl)
    rw [e13, n (b + 71) (by omega)]
    exact r9 c hc
theorem and12 (x : Int32) : (x &&& 12) &&& 4 = x &&& 4 ∧ (x &&& 12) &&& 8 = x &&& 8 := by
  have e4 : (12 : Int32) &&& 4 = 4 := by decide
  have e8 : (12 : Int32) &&& 8 = 8 := by decide
  constructor
  · rw [Int32.and_assoc, e4]
  · rw [Int32.and_assoc, e8]
/-- nothing below b changes its kind -/
def low (b : Nat) (h : mH) : Prop := ∀ a, a < b → (hK h a).1 = 0
end
