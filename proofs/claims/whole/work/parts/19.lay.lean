/-! ===== where the cells lie (written by wip/whole/gen/layout.py) ===== -/
def KK (o : Nat) : Option (Nat × Nat) :=
  if o = 0 then some (13, 10) else
  if o = 1 then some (4, 4) else
  if o = 2 then some (5, 24) else
  if o = 3 then some (12, 2) else
  if o = 4 then some (1, 144) else
  if o = 5 then some (12, 2) else
  if o = 6 then some (1, 144) else
  if o = 7 then some (1, 145) else
  if o = 8 then some (10, 11) else
  if o = 9 then some (12, 2) else
  if o = 10 then some (1, 144) else
  if o = 11 then some (1, 16) else
  if o = 13 then some (1, 6) else
  if o = 70 then some (14, 21) else
  if o = 71 then some (1, 6) else
  if o = 72 then some (1, 4) else
  if o = 73 then some (1, 4) else
  if o = 74 then some (1, 600) else
  if o = 75 then some (1, 150) else
  if o = 76 then some (1, 24) else
  if o = 77 then some (1, 3456) else
  if o = 78 then some (2, 144) else
  if o = 79 then some (3, 145) else
  if o = 80 then some (1, 144) else
  if o = 81 then some (1, 115200) else
  if o = 82 then some (1, 16) else
  if o = 83 then some (3, 17) else
  if o = 84 then some (1, 16) else
  if o = 85 then some (1, 17) else
  if 14 ≤ o ∧ o < 22 then (if o % 2 = 0 then some (11, 3) else some (1, 150)) else
  if 22 ≤ o ∧ o < 70 then (if o % 2 = 0 then some (12, 2) else some (1, 144)) else none
def PF (o k : Nat) : Option Nat :=
  if o = 0 ∧ k = 0 then some 1 else
  if o = 0 ∧ k = 1 then some 2 else
  if o = 0 ∧ k = 2 then some 3 else
  if o = 0 ∧ k = 3 then some 5 else
  if o = 0 ∧ k = 4 then some 7 else
  if o = 0 ∧ k = 5 then some 8 else
  if o = 0 ∧ k = 6 then some 13 else
  if o = 3 ∧ k = 0 then some 4 else
  if o = 5 ∧ k = 0 then some 6 else
  if o = 8 ∧ k = 0 then some 9 else
  if o = 8 ∧ k = 1 then some 11 else
  if o = 9 ∧ k = 0 then some 10 else
  if o = 70 ∧ k = 1 then some 71 else
  if o = 70 ∧ k = 2 then some 72 else
  if o = 70 ∧ k = 3 then some 73 else
  if o = 70 ∧ k = 4 then some 74 else
  if o = 70 ∧ k = 5 then some 75 else
  if o = 70 ∧ k = 6 then some 76 else
  if o = 70 ∧ k = 7 then some 77 else
  if o = 70 ∧ k = 9 then some 78 else
  if o = 70 ∧ k = 10 then some 79 else
  if o = 70 ∧ k = 11 then some 80 else
  if o = 70 ∧ k = 16 then some 81 else
  if o = 70 ∧ k = 17 then some 82 else
  if o = 70 ∧ k = 18 then some 83 else
  if o = 70 ∧ k = 19 then some 84 else
  if o = 70 ∧ k = 20 then some 85 else
  if o = 1 ∧ k < 4 then some (14 + 2 * k) else
  if o = 2 ∧ k < 24 then some (22 + 2 * k) else
  if 14 ≤ o ∧ o < 70 ∧ o % 2 = 0 ∧ k = 0 then some (o + 1) else none
/-- the kinds and the references of all cells that stay -/
def Lay (b : Nat) (h : mH) : Prop := (∀ (o : Nat) (x : Nat × Nat), KK o = some x → hK h (b + o) = x) ∧ ∀ (o k t : Nat), PF o k = some t → hF h (b + o) k = .ref (b + t)
section
variable {b : Nat} {h : mH}
theorem Lay.k0 (L : Lay b h) : hK h b = (13, 10) := L.1 0 _ (by decide +kernel)
theorem Lay.k1 (L : Lay b h) : hK h (b + 1) = (4, 4) := L.1 1 _ (by decide +kernel)
theorem Lay.k2 (L : Lay b h) : hK h (b + 2) = (5, 24) := L.1 2 _ (by decide +kernel)
theorem Lay.k3 (L : Lay b h) : hK h (b + 3) = (12, 2) := L.1 3 _ (by decide +kernel)
theorem Lay.k4 (L : Lay b h) : hK h (b + 4) = (1, 144) := L.1 4 _ (by decide +kernel)
theorem Lay.k5 (L : Lay b h) : hK h (b + 5) = (12, 2) := L.1 5 _ (by decide +kernel)
theorem Lay.k6 (L : Lay b h) : hK h (b + 6) = (1, 144) := L.1 6 _ (by decide +kernel)
theorem Lay.k7 (L : Lay b h) : hK h (b + 7) = (1, 145) := L.1 7 _ (by decide +kernel)
theorem Lay.k8 (L : Lay b h) : hK h (b + 8) = (10, 11) := L.1 8 _ (by decide +kernel)
theorem Lay.k9 (L : Lay b h) : hK h (b + 9) = (12, 2) := L.1 9 _ (by decide +kernel)
theorem Lay.k10 (L : Lay b h) : hK h (b + 10) = (1, 144) := L.1 10 _ (by decide +kernel)
theorem Lay.k11 (L : Lay b h) : hK h (b + 11) = (1, 16) := L.1 11 _ (by decide +kernel)
theorem Lay.k13 (L : Lay b h) : hK h (b + 13) = (1, 6) := L.1 13 _ (by decide +kernel)
theorem Lay.k70 (L : Lay b h) : hK h (b + 70) = (14, 21) := L.1 70 _ (by decide +kernel)
theorem Lay.k71 (L : Lay b h) : hK h (b + 71) = (1, 6) := L.1 71 _ (by decide +kernel)
theorem Lay.k72 (L : Lay b h) : hK h (b + 72) = (1, 4) := L.1 72 _ (by decide +kernel)
theorem Lay.k73 (L : Lay b h) : hK h (b + 73) = (1, 4) := L.1 73 _ (by decide +kernel)
theorem Lay.k74 (L : Lay b h) : hK h (b + 74) = (1, 600) := L.1 74 _ (by decide +kernel)
theorem Lay.k75 (L : Lay b h) : hK h (b + 75) = (1, 150) := L.1 75 _ (by decide +kernel)
theorem Lay.k76 (L : Lay b h) : hK h (b + 76) = (1, 24) := L.1 76 _ (by decide +kernel)
theorem Lay.k77 (L : Lay b h) : hK h (b + 77) = (1, 3456) := L.1 77 _ (by decide +kernel)
theorem Lay.k78 (L : Lay b h) : hK h (b + 78) = (2, 144) := L.1 78 _ (by decide +kernel)
theorem Lay.k79 (L : Lay b h) : hK h (b + 79) = (3, 145) := L.1 79 _ (by decide +kernel)
theorem Lay.k80 (L : Lay b h) : hK h (b + 80) = (1, 144) := L.1 80 _ (by decide +kernel)
theorem Lay.k81 (L : Lay b h) : hK h (b + 81) = (1, 115200) := L.1 81 _ (by decide +kernel)
theorem Lay.k82 (L : Lay b h) : hK h (b + 82) = (1, 16) := L.1 82 _ (by decide +kernel)
theorem Lay.k83 (L : Lay b h) : hK h (b + 83) = (3, 17) := L.1 83 _ (by decide +kernel)
theorem Lay.k84 (L : Lay b h) : hK h (b + 84) = (1, 16) := L.1 84 _ (by decide +kernel)
theorem Lay.k85 (L : Lay b h) : hK h (b + 85) = (1, 17) := L.1 85 _ (by decide +kernel)
theorem Lay.p0_0 (L : Lay b h) : hF h b 0 = .ref (b + 1) := L.2 0 0 1 (by decide +kernel)
theorem Lay.p0_1 (L : Lay b h) : hF h b 1 = .ref (b + 2) := L.2 0 1 2 (by decide +kernel)
theorem Lay.p0_2 (L : Lay b h) : hF h b 2 = .ref (b + 3) := L.2 0 2 3 (by decide +kernel)
theorem Lay.p0_3 (L : Lay b h) : hF h b 3 = .ref (b + 5) := L.2 0 3 5 (by decide +kernel)
theorem Lay.p0_4 (L : Lay b h) : hF h b 4 = .ref (b + 7) := L.2 0 4 7 (by decide +kernel)
theorem Lay.p0_5 (L : Lay b h) : hF h b 5 = .ref (b + 8) := L.2 0 5 8 (by decide +kernel)
theorem Lay.p0_6 (L : Lay b h) : hF h b 6 = .ref (b + 13) := L.2 0 6 13 (by decide +kernel)
theorem Lay.p3_0 (L : Lay b h) : hF h (b + 3) 0 = .ref (b + 4) := L.2 3 0 4 (by decide +kernel)
theorem Lay.p5_0 (L : Lay b h) : hF h (b + 5) 0 = .ref (b + 6) := L.2 5 0 6 (by decide +kernel)
theorem Lay.p8_0 (L : Lay b h) : hF h (b + 8) 0 = .ref (b + 9) := L.2 8 0 9 (by decide +kernel)
theorem Lay.p8_1 (L : Lay b h) : hF h (b + 8) 1 = .ref (b + 11) := L.2 8 1 11 (by decide +kernel)
theorem Lay.p9_0 (L : Lay b h) : hF h (b + 9) 0 = .ref (b + 10) := L.2 9 0 10 (by decide +kernel)
theorem Lay.p70_1 (L : Lay b h) : hF h (b + 70) 1 = .ref (b + 71) := L.2 70 1 71 (by decide +kernel)
theorem Lay.p70_2 (L : Lay b h) : hF h (b + 70) 2 = .ref (b + 72) := L.2 70 2 72 (by decide +kernel)
theorem Lay.p70_3 (L : Lay b h) : hF h (b + 70) 3 = .ref (b + 73) := L.2 70 3 73 (by decide +kernel)
theorem Lay.p70_4 (L : Lay b h) : hF h (b + 70) 4 = .ref (b + 74) := L.2 70 4 74 (by decide +kernel)
theorem Lay.p70_5 (L : Lay b h) : hF h (b + 70) 5 = .ref (b + 75) := L.2 70 5 75 (by decide +kernel)
theorem Lay.p70_6 (L : Lay b h) : hF h (b + 70) 6 = .ref (b + 76) := L.2 70 6 76 (by decide +kernel)
theorem Lay.p70_7 (L : Lay b h) : hF h (b + 70) 7 = .ref (b + 77) := L.2 70 7 77 (by decide +kernel)
theorem Lay.p70_9 (L : Lay b h) : hF h (b + 70) 9 = .ref (b + 78) := L.2 70 9 78 (by decide +kernel)
theorem Lay.p70_10 (L : Lay b h) : hF h (b + 70) 10 = .ref (b + 79) := L.2 70 10 79 (by decide +kernel)
theorem Lay.p70_11 (L : Lay b h) : hF h (b + 70) 11 = .ref (b + 80) := L.2 70 11 80 (by decide +kernel)
theorem Lay.p70_16 (L : Lay b h) : hF h (b + 70) 16 = .ref (b + 81) := L.2 70 16 81 (by decide +kernel)
theorem Lay.p70_17 (L : Lay b h) : hF h (b + 70) 17 = .ref (b + 82) := L.2 70 17 82 (by decide +kernel)
theorem Lay.p70_18 (L : Lay b h) : hF h (b + 70) 18 = .ref (b + 83) := L.2 70 18 83 (by decide +kernel)
theorem Lay.p70_19 (L : Lay b h) : hF h (b + 70) 19 = .ref (b + 84) := L.2 70 19 84 (by decide +kernel)
theorem Lay.p70_20 (L : Lay b h) : hF h (b + 70) 20 = .ref (b + 85) := L.2 70 20 85 (by decide +kernel)
theorem KKs {s : Nat} (q : s < 4) : KK (14 + 2 * s) = some (11, 3) ∧ KK (15 + 2 * s) = some (1, 150) := by
  have : ∀ s, s < 4 → KK (14 + 2 * s) = some (11, 3) ∧ KK (15 + 2 * s) = some (1, 150) := by decide +kernel
  exact this s q
theorem KKq {s : Nat} (q : s < 24) : KK (22 + 2 * s) = some (12, 2) ∧ KK (23 + 2 * s) = some (1, 144) := by
  have : ∀ s, s < 24 → KK (22 + 2 * s) = some (12, 2) ∧ KK (23 + 2 * s) = some (1, 144) := by decide +kernel
  exact this s q
theorem PFs {s : Nat} (q : s < 4) : PF 1 s = some (14 + 2 * s) ∧ PF (14 + 2 * s) 0 = some (15 + 2 * s) := by
  have : ∀ s, s < 4 → PF 1 s = some (14 + 2 * s) ∧ PF (14 + 2 * s) 0 = some (15 + 2 * s) := by decide +kernel
  exact this s q
theorem PFq {s : Nat} (q : s < 24) : PF 2 s = some (22 + 2 * s) ∧ PF (22 + 2 * s) 0 = some (23 + 2 * s) := by
  have : ∀ s, s < 24 → PF 2 s = some (22 + 2 * s) ∧ PF (22 + 2 * s) 0 = some (23 + 2 * s) := by decide +kernel
  exact this s q
/-- a sheet's object and row, a square's object and row -/
def aS (b s : Nat) : Nat := b + (14 + 2 * s)
def aT (b s : Nat) : Nat := b + (15 + 2 * s)
def aQ (b q : Nat) : Nat := b + (22 + 2 * q)
def aR (b q : Nat) : Nat := b + (23 + 2 * q)
theorem Lay.kS {s : Nat} (L : Lay b h) (q : s < 4) : hK h (aS b s) = (11, 3) := L.1 _ _ (KKs q).1
theorem Lay.kT {s : Nat} (L : Lay b h) (q : s < 4) : hK h (aT b s) = (1, 150) := L.1 _ _ (KKs q).2
theorem Lay.kQ {s : Nat} (L : Lay b h) (q : s < 24) : hK h (aQ b s) = (12, 2) := L.1 _ _ (KKq q).1
theorem Lay.kR {s : Nat} (L : Lay b h) (q : s < 24) : hK h (aR b s) = (1, 144) := L.1 _ _ (KKq q).2
theorem Lay.p1 {s : Nat} (L : Lay b h) (q : s < 4) : hF h (b + 1) s = .ref (aS b s) := L.2 _ _ _ (PFs q).1
theorem Lay.p2 {s : Nat} (L : Lay b h) (q : s < 24) : hF h (b + 2) s = .ref (aQ b s) := L.2 _ _ _ (PFq q).1
theorem Lay.pS {s : Nat} (L : Lay b h) (q : s < 4) : hF h (aS b s) 0 = .ref (aT b s) := L.2 _ _ _ (PFs q).2
theorem Lay.pQ {s : Nat} (L : Lay b h) (q : s < 24) : hF h (aQ b s) 0 = .ref (aR b s) := L.2 _ _ _ (PFq q).2
theorem Lay.sI (L : Lay b h) (a : Nat) (f : Nat → Int32) : Lay b (sI h a f) := L
theorem Lay.sJ (L : Lay b h) (a : Nat) (f : Nat → Int64) : Lay b (sJ h a f) := L
theorem Lay.sF (L : Lay b h) (o k : Nat) (v : Value) (q : PF o k = none) : Lay b (sF h (b + o) k v) := by
  refine ⟨L.1, fun o' k' t ht => ?_⟩
  rw [hF_sF, if_neg]
  · exact L.2 o' k' t ht
  · rintro ⟨e1, e2⟩
    have : o' = o := by omega
    subst this; subst e2
    rw [q] at ht
    cases ht
end
