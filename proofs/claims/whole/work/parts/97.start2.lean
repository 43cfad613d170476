/-! ===== the start ===== -/
section
variable {E : mE} {d : Nat} {b : Nat}
def KX : Nat → Nat × Nat := KM (kS (kSq (kSh KA 4) 24) 70 (14, 21))
def FX (b : Nat) (E : mE) : Nat → Nat → Value := FM b (fN (fSq b (fSh b (FA b E) 4) 24) 70 (zd 4))
def ZX : Nat := 4802 + 21 + 6 + 4 + 4 + 600 + 150 + 24 + 3456 + 144 + 145 + 144 + 115200 + 16 + 17 + 16 + 17
def H0 (b : Nat) (E : mE) : mH := sI (bh b 86 ZX KX (FX b E)) (b + 72) (rw_ (fun _ => -1) (fun _ => 0) 4)
theorem KX_ok : ∀ o, o < 86 → (match KK o with | some x => decide (KX o = x) | none => true) = true := by decide +kernel
theorem H0_K {o : Nat} (ho : o < 86) : hK (H0 b E) (b + o) = KX o := by
  unfold H0
  rw [hK_sI, hK_bh ho]
theorem H0_F {o j : Nat} (ho : o < 86) : hF (H0 b E) (b + o) j = FX b E o j := by
  unfold H0
  rw [hF_sI, hF_bh ho]
theorem PF_none (o k : Nat) : PF o k = none ∨ ((o = 0 ∧ k = 0) ∨ (o = 0 ∧ k = 1) ∨ (o = 0 ∧ k = 2) ∨ (o = 0 ∧ k = 3) ∨ (o = 0 ∧ k = 4) ∨ (o = 0 ∧ k = 5) ∨ (o = 0 ∧ k = 6) ∨ (o = 3 ∧ k = 0) ∨ (o = 5 ∧ k = 0) ∨ (o = 8 ∧ k = 0) ∨ (o = 8 ∧ k = 1) ∨ (o = 9 ∧ k = 0) ∨ (o = 70 ∧ k = 1) ∨ (o = 70 ∧ k = 2) ∨ (o = 70 ∧ k = 3) ∨ (o = 70 ∧ k = 4) ∨ (o = 70 ∧ k = 5) ∨ (o = 70 ∧ k = 6) ∨ (o = 70 ∧ k = 7) ∨ (o = 70 ∧ k = 9) ∨ (o = 70 ∧ k = 10) ∨ (o = 70 ∧ k = 11) ∨ (o = 70 ∧ k = 16) ∨ (o = 70 ∧ k = 17) ∨ (o = 70 ∧ k = 18) ∨ (o = 70 ∧ k = 19) ∨ (o = 70 ∧ k = 20)) ∨ (o = 1 ∧ k < 4) ∨ (o = 2 ∧ k < 24) ∨ (14 ≤ o ∧ o < 70 ∧ o % 2 = 0 ∧ k = 0) := by
  by_cases c : ((o = 0 ∧ k = 0) ∨ (o = 0 ∧ k = 1) ∨ (o = 0 ∧ k = 2) ∨ (o = 0 ∧ k = 3) ∨ (o = 0 ∧ k = 4) ∨ (o = 0 ∧ k = 5) ∨ (o = 0 ∧ k = 6) ∨ (o = 3 ∧ k = 0) ∨ (o = 5 ∧ k = 0) ∨ (o = 8 ∧ k = 0) ∨ (o = 8 ∧ k = 1) ∨ (o = 9 ∧ k = 0) ∨ (o = 70 ∧ k = 1) ∨ (o = 70 ∧ k = 2) ∨ (o = 70 ∧ k = 3) ∨ (o = 70 ∧ k = 4) ∨ (o = 70 ∧ k = 5) ∨ (o = 70 ∧ k = 6) ∨ (o = 70 ∧ k = 7) ∨ (o = 70 ∧ k = 9) ∨ (o = 70 ∧ k = 10) ∨ (o = 70 ∧ k = 11) ∨ (o = 70 ∧ k = 16) ∨ (o = 70 ∧ k = 17) ∨ (o = 70 ∧ k = 18) ∨ (o = 70 ∧ k = 19) ∨ (o = 70 ∧ k = 20))
  · exact Or.inr (Or.inl c)
  · by_cases c1 : o = 1 ∧ k < 4
    · exact Or.inr (Or.inr (Or.inl c1))
    · by_cases c2 : o = 2 ∧ k < 24
      · exact Or.inr (Or.inr (Or.inr (Or.inl c2)))
      · by_cases c3 : 14 ≤ o ∧ o < 70 ∧ o % 2 = 0 ∧ k = 0
        · exact Or.inr (Or.inr (Or.inr (Or.inr c3)))
        · left
          unfold PF
          rw [if_neg (fun q => c (Or.inl q))]
          rw [if_neg (fun q => c (Or.inr (Or.inl q)))]
          rw [if_neg (fun q => c (Or.inr (Or.inr (Or.inl q))))]
          rw [if_neg (fun q => c (Or.inr (Or.inr (Or.inr (Or.inl q)))))]
          rw [if_neg (fun q => c (Or.inr (Or.inr (Or.inr (Or.inr (Or.inl q))))))]
          rw [if_neg (fun q => c (Or.inr (Or.inr (Or.inr (Or.inr (Or.inr (Or.inl q)))))))]
          rw [if_neg (fun q => c (Or.inr (Or.inr (Or.inr (Or.inr (Or.inr (Or.inr (Or.inl q))))))))]
          rw [if_neg (fun q => c (Or.inr (Or.inr (Or.inr (Or.inr (Or.inr (Or.inr (Or.inr (Or.inl q)))))))))]
          rw [if_neg (fun q => c (Or.inr (Or.inr (Or.inr (Or.inr (Or.inr (Or.inr (Or.inr (Or.inr (Or.inl q))))))))))]
          rw [if_neg (fun q => c (Or.inr (Or.inr (Or.inr (Or.inr (Or.inr (Or.inr (Or.inr (Or.inr (Or.inr (Or.inl q)))))))))))]
          rw [if_neg (fun q => c (Or.inr (Or.inr (Or.inr (Or.inr (Or.inr (Or.inr (Or.inr (Or.inr (Or.inr (Or.inr (Or.inl q))))))))))))]
          rw [if_neg (fun q => c (Or.inr (Or.inr (Or.inr (Or.inr (Or.inr (Or.inr (Or.inr (Or.inr (Or.inr (Or.inr (Or.inr (Or.inl q)))))))))))))]
          rw [if_neg (fun q => c (Or.inr (Or.inr (Or.inr (Or.inr (Or.inr (Or.inr (Or.inr (Or.inr (Or.inr (Or.inr (Or.inr (Or.inr (Or.inl q))))))))))))))]
          rw [if_neg (fun q => c (Or.inr (Or.inr (Or.inr (Or.inr (Or.inr (Or.inr (Or.inr (Or.inr (Or.inr (Or.inr (Or.inr (Or.inr (Or.inr (Or.inl q)))))))))))))))]
          rw [if_neg (fun q => c (Or.inr (Or.inr (Or.inr (Or.inr (Or.inr (Or.inr (Or.inr (Or.inr (Or.inr (Or.inr (Or.inr (Or.inr (Or.inr (Or.inr (Or.inl q))))))))))))))))]
          rw [if_neg (fun q => c (Or.inr (Or.inr (Or.inr (Or.inr (Or.inr (Or.inr (Or.inr (Or.inr (Or.inr (Or.inr (Or.inr (Or.inr (Or.inr (Or.inr (Or.inr (Or.inl q)))))))))))))))))]
          rw [if_neg (fun q => c (Or.inr (Or.inr (Or.inr (Or.inr (Or.inr (Or.inr (Or.inr (Or.inr (Or.inr (Or.inr (Or.inr (Or.inr (Or.inr (Or.inr (Or.inr (Or.inr (Or.inl q))))))))))))))))))]
          rw [if_neg (fun q => c (Or.inr (Or.inr (Or.inr (Or.inr (Or.inr (Or.inr (Or.inr (Or.inr (Or.inr (Or.inr (Or.inr (Or.inr (Or.inr (Or.inr (Or.inr (Or.inr (Or.inr (Or.inl q)))))))))))))))))))]
          rw [if_neg (fun q => c (Or.inr (Or.inr (Or.inr (Or.inr (Or.inr (Or.inr (Or.inr (Or.inr (Or.inr (Or.inr (Or.inr (Or.inr (Or.inr (Or.inr (Or.inr (Or.inr (Or.inr (Or.inr (Or.inl q))))))))))))))))))))]
          rw [if_neg (fun q => c (Or.inr (Or.inr (Or.inr (Or.inr (Or.inr (Or.inr (Or.inr (Or.inr (Or.inr (Or.inr (Or.inr (Or.inr (Or.inr (Or.inr (Or.inr (Or.inr (Or.inr (Or.inr (Or.inr (Or.inl q)))))))))))))))))))))]
          rw [if_neg (fun q => c (Or.inr (Or.inr (Or.inr (Or.inr (Or.inr (Or.inr (Or.inr (Or.inr (Or.inr (Or.inr (Or.inr (Or.inr (Or.inr (Or.inr (Or.inr (Or.inr (Or.inr (Or.inr (Or.inr (Or.inr (Or.inl q))))))))))))))))))))))]
          rw [if_neg (fun q => c (Or.inr (Or.inr (Or.inr (Or.inr (Or.inr (Or.inr (Or.inr (Or.inr (Or.inr (Or.inr (Or.inr (Or.inr (Or.inr (Or.inr (Or.inr (Or.inr (Or.inr (Or.inr (Or.inr (Or.inr (Or.inr (Or.inl q)))))))))))))))))))))))]
          rw [if_neg (fun q => c (Or.inr (Or.inr (Or.inr (Or.inr (Or.inr (Or.inr (Or.inr (Or.inr (Or.inr (Or.inr (Or.inr (Or.inr (Or.inr (Or.inr (Or.inr (Or.inr (Or.inr (Or.inr (Or.inr (Or.inr (Or.inr (Or.inr (Or.inl q))))))))))))))))))))))))]
          rw [if_neg (fun q => c (Or.inr (Or.inr (Or.inr (Or.inr (Or.inr (Or.inr (Or.inr (Or.inr (Or.inr (Or.inr (Or.inr (Or.inr (Or.inr (Or.inr (Or.inr (Or.inr (Or.inr (Or.inr (Or.inr (Or.inr (Or.inr (Or.inr (Or.inr (Or.inl q)))))))))))))))))))))))))]
          rw [if_neg (fun q => c (Or.inr (Or.inr (Or.inr (Or.inr (Or.inr (Or.inr (Or.inr (Or.inr (Or.inr (Or.inr (Or.inr (Or.inr (Or.inr (Or.inr (Or.inr (Or.inr (Or.inr (Or.inr (Or.inr (Or.inr (Or.inr (Or.inr (Or.inr (Or.inr (Or.inl q))))))))))))))))))))))))))]
          rw [if_neg (fun q => c (Or.inr (Or.inr (Or.inr (Or.inr (Or.inr (Or.inr (Or.inr (Or.inr (Or.inr (Or.inr (Or.inr (Or.inr (Or.inr (Or.inr (Or.inr (Or.inr (Or.inr (Or.inr (Or.inr (Or.inr (Or.inr (Or.inr (Or.inr (Or.inr (Or.inr (Or.inl q)))))))))))))))))))))))))))]
          rw [if_neg (fun q => c (Or.inr (Or.inr (Or.inr (Or.inr (Or.inr (Or.inr (Or.inr (Or.inr (Or.inr (Or.inr (Or.inr (Or.inr (Or.inr (Or.inr (Or.inr (Or.inr (Or.inr (Or.inr (Or.inr (Or.inr (Or.inr (Or.inr (Or.inr (Or.inr (Or.inr (Or.inr (q))))))))))))))))))))))))))))]
          rw [if_neg c1, if_neg c2, if_neg c3]
theorem FX_1 : ∀ k, k < 4 → FX b E 1 k = .ref (b + (14 + 2 * k))
  | 0, _ => rfl
  | 1, _ => rfl
  | 2, _ => rfl
  | 3, _ => rfl
theorem FX_2 : ∀ k, k < 24 → FX b E 2 k = .ref (b + (22 + 2 * k))
  | 0, _ => rfl
  | 1, _ => rfl
  | 2, _ => rfl
  | 3, _ => rfl
  | 4, _ => rfl
  | 5, _ => rfl
  | 6, _ => rfl
  | 7, _ => rfl
  | 8, _ => rfl
  | 9, _ => rfl
  | 10, _ => rfl
  | 11, _ => rfl
  | 12, _ => rfl
  | 13, _ => rfl
  | 14, _ => rfl
  | 15, _ => rfl
  | 16, _ => rfl
  | 17, _ => rfl
  | 18, _ => rfl
  | 19, _ => rfl
  | 20, _ => rfl
  | 21, _ => rfl
  | 22, _ => rfl
  | 23, _ => rfl
  | k + 24, h => absurd h (by omega)
theorem FX_Q : ∀ q, q < 24 → FX b E (22 + 2 * q) 0 = .ref (b + (22 + 2 * q + 1)) ∧ FX b E (22 + 2 * q) 1 = .int 0
  | 0, _ => ⟨rfl, rfl⟩
  | 1, _ => ⟨rfl, rfl⟩
  | 2, _ => ⟨rfl, rfl⟩
  | 3, _ => ⟨rfl, rfl⟩
  | 4, _ => ⟨rfl, rfl⟩
  | 5, _ => ⟨rfl, rfl⟩
  | 6, _ => ⟨rfl, rfl⟩
  | 7, _ => ⟨rfl, rfl⟩
  | 8, _ => ⟨rfl, rfl⟩
  | 9, _ => ⟨rfl, rfl⟩
  | 10, _ => ⟨rfl, rfl⟩
  | 11, _ => ⟨rfl, rfl⟩
  | 12, _ => ⟨rfl, rfl⟩
  | 13, _ => ⟨rfl, rfl⟩
  | 14, _ => ⟨rfl, rfl⟩
  | 15, _ => ⟨rfl, rfl⟩
  | 16, _ => ⟨rfl, rfl⟩
  | 17, _ => ⟨rfl, rfl⟩
  | 18, _ => ⟨rfl, rfl⟩
  | 19, _ => ⟨rfl, rfl⟩
  | 20, _ => ⟨rfl, rfl⟩
  | 21, _ => ⟨rfl, rfl⟩
  | 22, _ => ⟨rfl, rfl⟩
  | 23, _ => ⟨rfl, rfl⟩
  | k + 24, h => absurd h (by omega)
theorem FX_S : ∀ s, s < 4 → FX b E (14 + 2 * s) 0 = .ref (b + (14 + 2 * s + 1)) ∧ FX b E (14 + 2 * s) 2 = .int (-1)
  | 0, _ => ⟨rfl, rfl⟩
  | 1, _ => ⟨rfl, rfl⟩
  | 2, _ => ⟨rfl, rfl⟩
  | 3, _ => ⟨rfl, rfl⟩
theorem FX_ok {o k t : Nat} (e : PF o k = some t) : FX b E o k = .ref (b + t) := by
  rcases PF_none o k with c | c | ⟨rfl, hk⟩ | ⟨rfl, hk⟩ | ⟨h1, h2, h3, rfl⟩
  · rw [c] at e
    cases e
  · rcases c with ⟨rfl, rfl⟩ | ⟨rfl, rfl⟩ | ⟨rfl, rfl⟩ | ⟨rfl, rfl⟩ | ⟨rfl, rfl⟩ | ⟨rfl, rfl⟩ | ⟨rfl, rfl⟩ | ⟨rfl, rfl⟩ | ⟨rfl, rfl⟩ | ⟨rfl, rfl⟩ | ⟨rfl, rfl⟩ | ⟨rfl, rfl⟩ | ⟨rfl, rfl⟩ | ⟨rfl, rfl⟩ | ⟨rfl, rfl⟩ | ⟨rfl, rfl⟩ | ⟨rfl, rfl⟩ | ⟨rfl, rfl⟩ | ⟨rfl, rfl⟩ | ⟨rfl, rfl⟩ | ⟨rfl, rfl⟩ | ⟨rfl, rfl⟩ | ⟨rfl, rfl⟩ | ⟨rfl, rfl⟩ | ⟨rfl, rfl⟩ | ⟨rfl, rfl⟩ | ⟨rfl, rfl⟩
    · have x : PF 0 0 = some 1 := by decide +kernel
      rw [x] at e
      cases e
      rfl
    · have x : PF 0 1 = some 2 := by decide +kernel
      rw [x] at e
      cases e
      rfl
    · have x : PF 0 2 = some 3 := by decide +kernel
      rw [x] at e
      cases e
      rfl
    · have x : PF 0 3 = some 5 := by decide +kernel
      rw [x] at e
      cases e
      rfl
    · have x : PF 0 4 = some 7 := by decide +kernel
      rw [x] at e
      cases e
      rfl
    · have x : PF 0 5 = some 8 := by decide +kernel
      rw [x] at e
      cases e
      rfl
    · have x : PF 0 6 = some 13 := by decide +kernel
      rw [x] at e
      cases e
      rfl
    · have x : PF 3 0 = some 4 := by decide +kernel
      rw [x] at e
      cases e
      rfl
    · have x : PF 5 0 = some 6 := by decide +kernel
      rw [x] at e
      cases e
      rfl
    · have x : PF 8 0 = some 9 := by decide +kernel
      rw [x] at e
      cases e
      rfl
    · have x : PF 8 1 = some 11 := by decide +kernel
      rw [x] at e
      cases e
      rfl
    · have x : PF 9 0 = some 10 := by decide +kernel
      rw [x] at e
      cases e
      rfl
    · have x : PF 70 1 = some 71 := by decide +kernel
      rw [x] at e
      cases e
      rfl
    · have x : PF 70 2 = some 72 := by decide +kernel
      rw [x] at e
      cases e
      rfl
    · have x : PF 70 3 = some 73 := by decide +kernel
      rw [x] at e
      cases e
      rfl
    · have x : PF 70 4 = some 74 := by decide +kernel
      rw [x] at e
      cases e
      rfl
    · have x : PF 70 5 = some 75 := by decide +kernel
      rw [x] at e
      cases e
      rfl
    · have x : PF 70 6 = some 76 := by decide +kernel
      rw [x] at e
      cases e
      rfl
    · have x : PF 70 7 = some 77 := by decide +kernel
      rw [x] at e
      cases e
      rfl
    · have x : PF 70 9 = some 78 := by decide +kernel
      rw [x] at e
      cases e
      rfl
    · have x : PF 70 10 = some 79 := by decide +kernel
      rw [x] at e
      cases e
      rfl
    · have x : PF 70 11 = some 80 := by decide +kernel
      rw [x] at e
      cases e
      rfl
    · have x : PF 70 16 = some 81 := by decide +kernel
      rw [x] at e
      cases e
      rfl
    · have x : PF 70 17 = some 82 := by decide +kernel
      rw [x] at e
      cases e
      rfl
    · have x : PF 70 18 = some 83 := by decide +kernel
      rw [x] at e
      cases e
      rfl
    · have x : PF 70 19 = some 84 := by decide +kernel
      rw [x] at e
      cases e
      rfl
    · have x : PF 70 20 = some 85 := by decide +kernel
      rw [x] at e
      cases e
      rfl
  · rw [(PFs hk).1] at e
    cases e
    exact FX_1 k hk
  · rw [(PFq hk).1] at e
    cases e
    exact FX_2 k hk
  · by_cases c : o < 22
    · obtain ⟨s, rfl⟩ : ∃ s, o = 14 + 2 * s := ⟨(o - 14) / 2, by omega⟩
      have hs : s < 4 := by omega
      rw [(PFs hs).2] at e
      cases e
      rw [(FX_S s hs).1]
      rw [show 14 + 2 * s + 1 = 15 + 2 * s by omega]
    · obtain ⟨s, rfl⟩ : ∃ s, o = 22 + 2 * s := ⟨(o - 22) / 2, by omega⟩
      have hs : s < 24 := by omega
      rw [(PFq hs).2] at e
      cases e
      rw [(FX_Q s hs).1]
      rw [show 22 + 2 * s + 1 = 23 + 2 * s by omega]
theorem H0_L : Lay b (H0 b E) := by
  refine ⟨fun o x e => ?_, fun o k t e => ?_⟩
  · have ho := KK_lt e
    have := KX_ok o ho
    rw [e] at this
    rw [H0_K ho]
    exact of_decide_eq_true this
  · rw [H0_F (PF_lt e)]
    exact FX_ok e
theorem H0_I {a p : Nat} (ha : a ≠ b + 72) : hI (H0 b E) a p = 0 := by
  unfold H0
  rw [hI_sI_ne _ _ ha]
  rfl
theorem H0_72 {p : Nat} (hp : p < 4) : hI (H0 b E) (b + 72) p = -1 := by
  unfold H0
  rw [hI_sI_same, rw_in hp]
theorem H0_Rel : Rel b (fun _ => 0) (fun _ => none) (H0 b E) := by
  have f0 : ∀ j, hF (H0 b E) b j = FX b E 0 j := fun j => H0_F (o := 0) (by decide)
  refine ⟨H0_L, fun q hq => ⟨?_, Nat.zero_le _⟩, fun q hq => ⟨?_, Nat.zero_le _⟩, fun s hs => ⟨?_, Nat.zero_le _⟩, fun s hs => ⟨⟨fun _ => rfl, fun _ => H0_72 hs⟩, fun n hn => (by cases hn), Nat.zero_le _⟩, fun q hq => ⟨fun p hp => absurd (show p < 0 from hp) (by omega), fun p hp => absurd (show p < 0 from hp) (by omega)⟩, fun s hs p hp => ?_, fun s hs hz => absurd rfl hz, ⟨0, ?_, ?_⟩, fun c hc => ?_, ⟨0, by decide, ?_, ?_⟩, ⟨-1, ?_, ?_⟩⟩
  · unfold aQ
    rw [H0_F (by omega)]
    exact (FX_Q q hq).2
  · rw [H0_I (by omega)]
    rfl
  · unfold aS
    rw [H0_F (by omega)]
    exact (FX_S s hs).2
  · rw [H0_I (by unfold aT; omega)]
    exact (H0_I (by omega)).symm
  · rw [f0]
    rfl
  · rw [H0_F (by decide)]
    rfl
  · rw [H0_I (by omega), H0_I (by omega)]
  · rw [f0]
    rfl
  · rw [H0_F (by decide)]
    rfl
  · rw [H0_F (by decide)]
    rfl
  · rw [H0_F (by decide)]
    rfl
theorem H0_FI : FI b ZX (H0 b E) := by
  have f0 : ∀ j, hF (H0 b E) b j = FX b E 0 j := fun j => H0_F (o := 0) (by decide)
  refine ⟨⟨false, ?_, ?_⟩, ⟨0, b + 12, by decide, ?_, ?_, Or.inl rfl, ?_, ?_, ?_⟩, Or.inl ⟨?_, ?_⟩⟩
  · rw [f0]
    rfl
  · rw [H0_F (by decide)]
    rfl
  · rw [H0_F (by decide)]
    rfl
  · rw [H0_K (by decide)]
    rfl
  · show b + 12 < b + 86
    omega
  · rfl
  · rfl
  · rw [H0_F (by decide)]
    rfl
  · rw [H0_F (by decide)]
    rfl
theorem H0_low : low b (H0 b E) := fun a ha => by
  unfold H0
  rw [hK_sI, hK_lo ha]
end
