/-! ===== all squares sought are few ===== -/
section
theorem pl_cov : ∀ n, n < 5 → 1 ≤ n → ∀ p, p < n * n → ∃ s ∈ pln n, s.1 = p := by decide +kernel
theorem pl_lt : ∀ n, n < 5 → 1 ≤ n → ∀ s ∈ pln n, s.1 < n * n ∧ (s.2 ≠ [] → s.2.length = n - 1 ∧ ∀ x ∈ s.2, x < n * n) := by decide +kernel
theorem pl_nd : ∀ n, n < 5 → 1 ≤ n → (pln n).Pairwise (fun s t => s.1 ≠ t.1) := by decide +kernel
theorem sum_m1 {f : Nat → Nat} : ∀ (l : List Nat), (∀ x ∈ l, 1 ≤ f x) → (l.map (fun x => f x - 1)).sum + l.length = (l.map f).sum
  | [], _ => rfl
  | x :: l, h => by
    have h1 := h x List.mem_cons_self
    have ih := sum_m1 l (fun y hy => h y (List.mem_cons_of_mem _ hy))
    rw [List.map_cons, List.map_cons, List.sum_cons, List.sum_cons, List.length_cons]
    omega
/-- the mask in which all above 15 are taken -/
theorem mb0 : ∀ x, x < 16 → mbt 4294901760 x = 0 := by decide +kernel
/-- where a turn takes its places from -/
def sg (t p : Nat) : Nat := (match t with
  | 0 => [0, 1, 2, 3, 4, 5, 6, 7, 8, 9, 10, 11, 12, 13, 14, 15]
  | 1 => [12, 8, 4, 0, 13, 9, 5, 1, 14, 10, 6, 2, 15, 11, 7, 3]
  | 2 => [15, 14, 13, 12, 11, 10, 9, 8, 7, 6, 5, 4, 3, 2, 1, 0]
  | 3 => [3, 7, 11, 15, 2, 6, 10, 14, 1, 5, 9, 13, 0, 4, 8, 12]
  | 4 => [0, 4, 8, 12, 1, 5, 9, 13, 2, 6, 10, 14, 3, 7, 11, 15]
  | 5 => [3, 2, 1, 0, 7, 6, 5, 4, 11, 10, 9, 8, 15, 14, 13, 12]
  | 6 => [15, 11, 7, 3, 14, 10, 6, 2, 13, 9, 5, 1, 12, 8, 4, 0]
  | _ => [12, 13, 14, 15, 8, 9, 10, 11, 4, 5, 6, 7, 0, 1, 2, 3]).getD p 0
theorem sg_lt : ∀ t, t < 8 → ∀ p, p < 16 → sg t p < 16 := by decide +kernel
theorem sg_on : ∀ t, t < 8 → ∀ p, p < 16 → ∃ s ∈ plc4, sg t s.1 = p := by decide +kernel
theorem sg_nd : ∀ t, t < 8 → plc4.Pairwise (fun s u => sg t s.1 ≠ sg t u.1) := by decide +kernel
theorem plc4_lt : ∀ s ∈ plc4, s.1 < 16 ∧ (s.2.1 ≠ [] → s.2.1.length = 3 ∧ ∀ x ∈ s.2.1, x < 16) := by decide +kernel
def wfb : List Nat → List (Nat × List Nat × List Nat) → Bool
  | _, [] => true
  | dn, s :: P => decide (s.1 < 16) && (decide (s.1 ∉ dn) && (decide (∀ c ∈ s.2.1 ++ s.2.2, c ∈ dn) && wfb (s.1 :: dn) P))
theorem wfb_ok : ∀ (P : List (Nat × List Nat × List Nat)) (dn : List Nat), wfb dn P = true → wfp dn P
  | [], _, _ => trivial
  | s :: P, dn, e => by
    unfold wfb at e
    rw [Bool.and_eq_true, Bool.and_eq_true, Bool.and_eq_true] at e
    exact ⟨of_decide_eq_true e.1, of_decide_eq_true e.2.1, of_decide_eq_true e.2.2.1, wfb_ok P (s.1 :: dn) e.2.2.2⟩
theorem plc4_wf : wfp [] plc4 := wfb_ok _ _ (by decide +kernel)
theorem sg_s0 {rd pd : Bool} {hd f : Nat → Nat} (S : Sol 4 rd pd hd f) : ∀ s ∈ plc4, s.2.1 ≠ [] → f (sg 0 s.1) + (s.2.1.map (fun c => f (sg 0 c))).sum = 34 := by
  have l := lin4 S
  intro s hs
  simp only [plc4, List.mem_cons, List.not_mem_nil, or_false] at hs
  rcases hs with rfl | rfl | rfl | rfl | rfl | rfl | rfl | rfl | rfl | rfl | rfl | rfl | rfl | rfl | rfl | rfl
  · exact fun q => absurd rfl q
  · exact fun q => absurd rfl q
  · exact fun q => absurd rfl q
  · exact fun _ => (by omega : f 3 + (f 0 + (f 1 + (f 2 + 0))) = 34)
  · exact fun q => absurd rfl q
  · exact fun _ => (by omega : f 15 + (f 0 + (f 3 + (f 12 + 0))) = 34)
  · exact fun q => absurd rfl q
  · exact fun _ => (by omega : f 9 + (f 3 + (f 6 + (f 12 + 0))) = 34)
  · exact fun q => absurd rfl q
  · exact fun _ => (by omega : f 10 + (f 0 + (f 5 + (f 15 + 0))) = 34)
  · exact fun _ => (by omega : f 13 + (f 1 + (f 5 + (f 9 + 0))) = 34)
  · exact fun _ => (by omega : f 14 + (f 2 + (f 6 + (f 10 + 0))) = 34)
  · exact fun q => absurd rfl q
  · exact fun _ => (by omega : f 8 + (f 0 + (f 4 + (f 12 + 0))) = 34)
  · exact fun _ => (by omega : f 7 + (f 4 + (f 5 + (f 6 + 0))) = 34)
  · exact fun _ => (by omega : f 11 + (f 8 + (f 9 + (f 10 + 0))) = 34)
theorem sg_s1 {rd pd : Bool} {hd f : Nat → Nat} (S : Sol 4 rd pd hd f) : ∀ s ∈ plc4, s.2.1 ≠ [] → f (sg 1 s.1) + (s.2.1.map (fun c => f (sg 1 c))).sum = 34 := by
  have l := lin4 S
  intro s hs
  simp only [plc4, List.mem_cons, List.not_mem_nil, or_false] at hs
  rcases hs with rfl | rfl | rfl | rfl | rfl | rfl | rfl | rfl | rfl | rfl | rfl | rfl | rfl | rfl | rfl | rfl
  · exact fun q => absurd rfl q
  · exact fun q => absurd rfl q
  · exact fun q => absurd rfl q
  · exact fun _ => (by omega : f 0 + (f 12 + (f 8 + (f 4 + 0))) = 34)
  · exact fun q => absurd rfl q
  · exact fun _ => (by omega : f 3 + (f 12 + (f 0 + (f 15 + 0))) = 34)
  · exact fun q => absurd rfl q
  · exact fun _ => (by omega : f 10 + (f 0 + (f 5 + (f 15 + 0))) = 34)
  · exact fun q => absurd rfl q
  · exact fun _ => (by omega : f 6 + (f 12 + (f 9 + (f 3 + 0))) = 34)
  · exact fun _ => (by omega : f 11 + (f 8 + (f 9 + (f 10 + 0))) = 34)
  · exact fun _ => (by omega : f 7 + (f 4 + (f 5 + (f 6 + 0))) = 34)
  · exact fun q => absurd rfl q
  · exact fun _ => (by omega : f 14 + (f 12 + (f 13 + (f 15 + 0))) = 34)
  · exact fun _ => (by omega : f 1 + (f 13 + (f 9 + (f 5 + 0))) = 34)
  · exact fun _ => (by omega : f 2 + (f 14 + (f 10 + (f 6 + 0))) = 34)
theorem sg_s2 {rd pd : Bool} {hd f : Nat → Nat} (S : Sol 4 rd pd hd f) : ∀ s ∈ plc4, s.2.1 ≠ [] → f (sg 2 s.1) + (s.2.1.map (fun c => f (sg 2 c))).sum = 34 := by
  have l := lin4 S
  intro s hs
  simp only [plc4, List.mem_cons, List.not_mem_nil, or_false] at hs
  rcases hs with rfl | rfl | rfl | rfl | rfl | rfl | rfl | rfl | rfl | rfl | rfl | rfl | rfl | rfl | rfl | rfl
  · exact fun q => absurd rfl q
  · exact fun q => absurd rfl q
  · exact fun q => absurd rfl q
  · exact fun _ => (by omega : f 12 + (f 15 + (f 14 + (f 13 + 0))) = 34)
  · exact fun q => absurd rfl q
  · exact fun _ => (by omega : f 0 + (f 15 + (f 12 + (f 3 + 0))) = 34)
  · exact fun q => absurd rfl q
  · exact fun _ => (by omega : f 6 + (f 12 + (f 9 + (f 3 + 0))) = 34)
  · exact fun q => absurd rfl q
  · exact fun _ => (by omega : f 5 + (f 15 + (f 10 + (f 0 + 0))) = 34)
  · exact fun _ => (by omega : f 2 + (f 14 + (f 10 + (f 6 + 0))) = 34)
  · exact fun _ => (by omega : f 1 + (f 13 + (f 9 + (f 5 + 0))) = 34)
  · exact fun q => absurd rfl q
  · exact fun _ => (by omega : f 7 + (f 15 + (f 11 + (f 3 + 0))) = 34)
  · exact fun _ => (by omega : f 8 + (f 11 + (f 10 + (f 9 + 0))) = 34)
  · exact fun _ => (by omega : f 4 + (f 7 + (f 6 + (f 5 + 0))) = 34)
theorem sg_s3 {rd pd : Bool} {hd f : Nat → Nat} (S : Sol 4 rd pd hd f) : ∀ s ∈ plc4, s.2.1 ≠ [] → f (sg 3 s.1) + (s.2.1.map (fun c => f (sg 3 c))).sum = 34 := by
  have l := lin4 S
  intro s hs
  simp only [plc4, List.mem_cons, List.not_mem_nil, or_false] at hs
  rcases hs with rfl | rfl | rfl | rfl | rfl | rfl | rfl | rfl | rfl | rfl | rfl | rfl | rfl | rfl | rfl | rfl
  · exact fun q => absurd rfl q
  · exact fun q => absurd rfl q
  · exact fun q => absurd rfl q
  · exact fun _ => (by omega : f 15 + (f 3 + (f 7 + (f 11 + 0))) = 34)
  · exact fun q => absurd rfl q
  · exact fun _ => (by omega : f 12 + (f 3 + (f 15 + (f 0 + 0))) = 34)
  · exact fun q => absurd rfl q
  · exact fun _ => (by omega : f 5 + (f 15 + (f 10 + (f 0 + 0))) = 34)
  · exact fun q => absurd rfl q
  · exact fun _ => (by omega : f 9 + (f 3 + (f 6 + (f 12 + 0))) = 34)
  · exact fun _ => (by omega : f 4 + (f 7 + (f 6 + (f 5 + 0))) = 34)
  · exact fun _ => (by omega : f 8 + (f 11 + (f 10 + (f 9 + 0))) = 34)
  · exact fun q => absurd rfl q
  · exact fun _ => (by omega : f 1 + (f 3 + (f 2 + (f 0 + 0))) = 34)
  · exact fun _ => (by omega : f 14 + (f 2 + (f 6 + (f 10 + 0))) = 34)
  · exact fun _ => (by omega : f 13 + (f 1 + (f 5 + (f 9 + 0))) = 34)
theorem sg_s4 {rd pd : Bool} {hd f : Nat → Nat} (S : Sol 4 rd pd hd f) : ∀ s ∈ plc4, s.2.1 ≠ [] → f (sg 4 s.1) + (s.2.1.map (fun c => f (sg 4 c))).sum = 34 := by
  have l := lin4 S
  intro s hs
  simp only [plc4, List.mem_cons, List.not_mem_nil, or_false] at hs
  rcases hs with rfl | rfl | rfl | rfl | rfl | rfl | rfl | rfl | rfl | rfl | rfl | rfl | rfl | rfl | rfl | rfl
  · exact fun q => absurd rfl q
  · exact fun q => absurd rfl q
  · exact fun q => absurd rfl q
  · exact fun _ => (by omega : f 12 + (f 0 + (f 4 + (f 8 + 0))) = 34)
  · exact fun q => absurd rfl q
  · exact fun _ => (by omega : f 15 + (f 0 + (f 12 + (f 3 + 0))) = 34)
  · exact fun q => absurd rfl q
  · exact fun _ => (by omega : f 6 + (f 12 + (f 9 + (f 3 + 0))) = 34)
  · exact fun q => absurd rfl q
  · exact fun _ => (by omega : f 10 + (f 0 + (f 5 + (f 15 + 0))) = 34)
  · exact fun _ => (by omega : f 7 + (f 4 + (f 5 + (f 6 + 0))) = 34)
  · exact fun _ => (by omega : f 11 + (f 8 + (f 9 + (f 10 + 0))) = 34)
  · exact fun q => absurd rfl q
  · exact fun _ => (by omega : f 2 + (f 0 + (f 1 + (f 3 + 0))) = 34)
  · exact fun _ => (by omega : f 13 + (f 1 + (f 5 + (f 9 + 0))) = 34)
  · exact fun _ => (by omega : f 14 + (f 2 + (f 6 + (f 10 + 0))) = 34)
theorem sg_s5 {rd pd : Bool} {hd f : Nat → Nat} (S : Sol 4 rd pd hd f) : ∀ s ∈ plc4, s.2.1 ≠ [] → f (sg 5 s.1) + (s.2.1.map (fun c => f (sg 5 c))).sum = 34 := by
  have l := lin4 S
  intro s hs
  simp only [plc4, List.mem_cons, List.not_mem_nil, or_false] at hs
  rcases hs with rfl | rfl | rfl | rfl | rfl | rfl | rfl | rfl | rfl | rfl | rfl | rfl | rfl | rfl | rfl | rfl
  · exact fun q => absurd rfl q
  · exact fun q => absurd rfl q
  · exact fun q => absurd rfl q
  · exact fun _ => (by omega : f 0 + (f 3 + (f 2 + (f 1 + 0))) = 34)
  · exact fun q => absurd rfl q
  · exact fun _ => (by omega : f 12 + (f 3 + (f 0 + (f 15 + 0))) = 34)
  · exact fun q => absurd rfl q
  · exact fun _ => (by omega : f 10 + (f 0 + (f 5 + (f 15 + 0))) = 34)
  · exact fun q => absurd rfl q
  · exact fun _ => (by omega : f 9 + (f 3 + (f 6 + (f 12 + 0))) = 34)
  · exact fun _ => (by omega : f 14 + (f 2 + (f 6 + (f 10 + 0))) = 34)
  · exact fun _ => (by omega : f 13 + (f 1 + (f 5 + (f 9 + 0))) = 34)
  · exact fun q => absurd rfl q
  · exact fun _ => (by omega : f 11 + (f 3 + (f 7 + (f 15 + 0))) = 34)
  · exact fun _ => (by omega : f 4 + (f 7 + (f 6 + (f 5 + 0))) = 34)
  · exact fun _ => (by omega : f 8 + (f 11 + (f 10 + (f 9 + 0))) = 34)
theorem sg_s6 {rd pd : Bool} {hd f : Nat → Nat} (S : Sol 4 rd pd hd f) : ∀ s ∈ plc4, s.2.1 ≠ [] → f (sg 6 s.1) + (s.2.1.map (fun c => f (sg 6 c))).sum = 34 := by
  have l := lin4 S
  intro s hs
  simp only [plc4, List.mem_cons, List.not_mem_nil, or_false] at hs
  rcases hs with rfl | rfl | rfl | rfl | rfl | rfl | rfl | rfl | rfl | rfl | rfl | rfl | rfl | rfl | rfl | rfl
  · exact fun q => absurd rfl q
  · exact fun q => absurd rfl q
  · exact fun q => absurd rfl q
  · exact fun _ => (by omega : f 3 + (f 15 + (f 11 + (f 7 + 0))) = 34)
  · exact fun q => absurd rfl q
  · exact fun _ => (by omega : f 0 + (f 15 + (f 3 + (f 12 + 0))) = 34)
  · exact fun q => absurd rfl q
  · exact fun _ => (by omega : f 9 + (f 3 + (f 6 + (f 12 + 0))) = 34)
  · exact fun q => absurd rfl q
  · exact fun _ => (by omega : f 5 + (f 15 + (f 10 + (f 0 + 0))) = 34)
  · exact fun _ => (by omega : f 8 + (f 11 + (f 10 + (f 9 + 0))) = 34)
  · exact fun _ => (by omega : f 4 + (f 7 + (f 6 + (f 5 + 0))) = 34)
  · exact fun q => absurd rfl q
  · exact fun _ => (by omega : f 13 + (f 15 + (f 14 + (f 12 + 0))) = 34)
  · exact fun _ => (by omega : f 2 + (f 14 + (f 10 + (f 6 + 0))) = 34)
  · exact fun _ => (by omega : f 1 + (f 13 + (f 9 + (f 5 + 0))) = 34)
theorem sg_s7 {rd pd : Bool} {hd f : Nat → Nat} (S : Sol 4 rd pd hd f) : ∀ s ∈ plc4, s.2.1 ≠ [] → f (sg 7 s.1) + (s.2.1.map (fun c => f (sg 7 c))).sum = 34 := by
  have l := lin4 S
  intro s hs
  simp only [plc4, List.mem_cons, List.not_mem_nil, or_false] at hs
  rcases hs with rfl | rfl | rfl | rfl | rfl | rfl | rfl | rfl | rfl | rfl | rfl | rfl | rfl | rfl | rfl | rfl
  · exact fun q => absurd rfl q
  · exact fun q => absurd rfl q
  · exact fun q => absurd rfl q
  · exact fun _ => (by omega : f 15 + (f 12 + (f 13 + (f 14 + 0))) = 34)
  · exact fun q => absurd rfl q
  · exact fun _ => (by omega : f 3 + (f 12 + (f 15 + (f 0 + 0))) = 34)
  · exact fun q => absurd rfl q
  · exact fun _ => (by omega : f 5 + (f 15 + (f 10 + (f 0 + 0))) = 34)
  · exact fun q => absurd rfl q
  · exact fun _ => (by omega : f 6 + (f 12 + (f 9 + (f 3 + 0))) = 34)
  · exact fun _ => (by omega : f 1 + (f 13 + (f 9 + (f 5 + 0))) = 34)
  · exact fun _ => (by omega : f 2 + (f 14 + (f 10 + (f 6 + 0))) = 34)
  · exact fun q => absurd rfl q
  · exact fun _ => (by omega : f 4 + (f 12 + (f 8 + (f 0 + 0))) = 34)
  · exact fun _ => (by omega : f 11 + (f 8 + (f 9 + (f 10 + 0))) = 34)
  · exact fun _ => (by omega : f 7 + (f 4 + (f 5 + (f 6 + 0))) = 34)
theorem sg_sum {t : Nat} (ht : t < 8) {rd pd : Bool} {hd f : Nat → Nat} (S : Sol 4 rd pd hd f) : ∀ s ∈ plc4, s.2.1 ≠ [] → f (sg t s.1) + (s.2.1.map (fun c => f (sg t c))).sum = 34 := by
  have hc : t = 0 ∨ t = 1 ∨ t = 2 ∨ t = 3 ∨ t = 4 ∨ t = 5 ∨ t = 6 ∨ t = 7 := by omega
  rcases hc with rfl | rfl | rfl | rfl | rfl | rfl | rfl | rfl
  · exact sg_s0 S
  · exact sg_s1 S
  · exact sg_s2 S
  · exact sg_s3 S
  · exact sg_s4 S
  · exact sg_s5 S
  · exact sg_s6 S
  · exact sg_s7 S
/-- the one of eight in which the least corner comes first, then the lesser of its neighbours -/
def nrm (t κ : Nat) : Bool := decide (kdg κ 16 (sg t 0) < kdg κ 16 (sg t 3) ∧ kdg κ 16 (sg t 3) < kdg κ 16 (sg t 12) ∧ kdg κ 16 (sg t 0) < kdg κ 16 (sg t 15))
theorem cov8 {P0 P1 P2 P3 P4 P5 P6 P7 : Nat → Bool} : ∀ (X : List Nat), (∀ κ ∈ X, P0 κ = true ∨ P1 κ = true ∨ P2 κ = true ∨ P3 κ = true ∨ P4 κ = true ∨ P5 κ = true ∨ P6 κ = true ∨ P7 κ = true) → X.length ≤ X.countP P0 + X.countP P1 + X.countP P2 + X.countP P3 + X.countP P4 + X.countP P5 + X.countP P6 + X.countP P7
  | [], _ => Nat.zero_le _
  | x :: X, h => by
    have ih := cov8 X (fun κ hκ => h κ (List.mem_cons_of_mem _ hκ))
    have hx := h x List.mem_cons_self
    simp only [List.countP_cons, List.length_cons]
    rcases hx with q | q | q | q | q | q | q | q <;> simp only [q, if_true] <;> omega
theorem few_t {t : Nat} (ht : t < 8) {rd pd : Bool} {hd : Nat → Nat} (X : List Nat) (nd : X.Nodup) (hX : ∀ κ ∈ X, (∃ f, Sol 4 rd pd hd f ∧ kyr f 16 = κ) ∧ nrm t κ = true) : X.length ≤ 880 := by
  have dgf : ∀ {f : Nat → Nat}, Sol 4 rd pd hd f → ∀ c, c < 16 → kdg (kyr f 16) 16 (sg t c) = f (sg t c) - 1 := fun F c hc => kdg_kyr (Sol_val (n := 4) (by decide) F) (sg_lt t ht c hc)
  refine Nat.le_trans (cnt_le (B := 16) (W := 31) (fun κ c => kdg κ 16 (sg t c)) (by decide) plc4 [] 0 4294901760 X plc4_wf (fun c hc => by cases hc) nd ?_ (fun _ _ c hc => by cases hc) ?_ ?_ ?_ ?_ ?_) (Nat.le_of_ble_eq_true cnt4)
  · intro κ hκ μ hμ e
    obtain ⟨⟨f, F, rfl⟩, _⟩ := hX κ hκ
    obtain ⟨⟨g, G, rfl⟩, _⟩ := hX μ hμ
    apply kyr_cg
    intro p hp
    obtain ⟨s, hs, es⟩ := sg_on t ht p hp
    have h1 := e s.1 (Or.inr ⟨s, hs, rfl⟩)
    change kdg _ _ _ = kdg _ _ _ at h1
    have hs1 := (plc4_lt s hs).1
    rw [dgf F s.1 hs1, dgf G s.1 hs1, es] at h1
    have := F.1 p hp
    have := G.1 p hp
    omega
  · intro s _
    show Nat.land (Nat.shiftRight 0 (Nat.mul 4 s.1)) 15 = 0
    have : Nat.shiftRight 0 (Nat.mul 4 s.1) = 0 := Nat.zero_shiftRight _
    rw [this]
    rfl
  · intro κ hκ s hs
    obtain ⟨⟨f, F, rfl⟩, _⟩ := hX κ hκ
    have hs1 := (plc4_lt s hs).1
    have := F.1 (sg t s.1) (sg_lt t ht s.1 hs1)
    show kdg _ _ _ < _ ∧ mbt _ (kdg _ _ _) = 0
    rw [dgf F s.1 hs1]
    exact ⟨by omega, mb0 _ (by omega)⟩
  · intro κ hκ
    obtain ⟨⟨f, F, rfl⟩, _⟩ := hX κ hκ
    refine List.Pairwise.imp_of_mem ?_ (sg_nd t ht)
    intro s u hs hu hne
    have hs1 := (plc4_lt s hs).1
    have hu1 := (plc4_lt u hu).1
    show kdg _ _ _ ≠ kdg _ _ _
    rw [dgf F s.1 hs1, dgf F u.1 hu1]
    have b1 := sg_lt t ht s.1 hs1
    have b2 := sg_lt t ht u.1 hu1
    have a1 := F.1 (sg t s.1) b1
    have a2 := F.1 (sg t u.1) b2
    rcases Nat.lt_or_gt_of_ne hne with c | c
    · have := F.2.1 (sg t s.1) (sg t u.1) c b2
      omega
    · have := F.2.1 (sg t u.1) (sg t s.1) c b1
      omega
  · intro κ hκ s hs hne
    obtain ⟨⟨f, F, rfl⟩, _⟩ := hX κ hκ
    have hs1 := (plc4_lt s hs).1
    have hs2 := (plc4_lt s hs).2 hne
    have e1 : s.2.1.map (fun c => kdg (kyr f 16) 16 (sg t c)) = s.2.1.map (fun c => f (sg t c) - 1) := by
      apply List.map_congr_left
      intro c hc
      exact dgf F c (hs2.2 c hc)
    have e2 := sum_m1 (f := fun c => f (sg t c)) s.2.1 (fun x hx => (F.1 (sg t x) (sg_lt t ht x (hs2.2 x hx))).1)
    have e3 := sg_sum ht F s hs hne
    have a1 := F.1 (sg t s.1) (sg_lt t ht s.1 hs1)
    show kdg _ _ _ + 1 + (s.2.1.map (fun c => kdg (kyr f 16) 16 (sg t c))).sum = _
    rw [e1, dgf F s.1 hs1]
    rw [hs2.1] at e2
    omega
  · intro κ hκ s hs
    have hq := of_decide_eq_true (hX κ hκ).2
    simp only [plc4, List.mem_cons, List.not_mem_nil, or_false] at hs
    rcases hs with rfl | rfl | rfl | rfl | rfl | rfl | rfl | rfl | rfl | rfl | rfl | rfl | rfl | rfl | rfl | rfl <;> intro c hc <;> simp only [List.mem_cons, List.not_mem_nil, or_false] at hc <;> first | (subst hc; first | exact hq.1 | exact hq.2.1 | exact hq.2.2) | exact hc.elim
end
