/-! ===== all squares sought are few, the end ===== -/
section
theorem corn {a b c d : Nat} (n1 : a ≠ b) (n2 : a ≠ c) (n3 : a ≠ d) (n4 : b ≠ c) (n5 : b ≠ d) (n6 : c ≠ d) : (a < b ∧ b < c ∧ a < d) ∨ (c < a ∧ a < d ∧ c < b) ∨ (d < c ∧ c < b ∧ d < a) ∨ (b < d ∧ d < a ∧ b < c) ∨ (a < c ∧ c < b ∧ a < d) ∨ (b < a ∧ a < d ∧ b < c) ∨ (d < b ∧ b < c ∧ d < a) ∨ (c < d ∧ d < a ∧ c < b) := by
  by_cases h1 : a < b
  · by_cases h2 : a < c
    · by_cases h3 : a < d
      · by_cases h4 : b < c
        · exact Or.inl ⟨h1, h4, h3⟩
        · exact Or.inr (Or.inr (Or.inr (Or.inr (Or.inl ⟨h2, by omega, h3⟩))))
      · by_cases h4 : b < c
        · exact Or.inr (Or.inr (Or.inr (Or.inr (Or.inr (Or.inr (Or.inl ⟨by omega, h4, by omega⟩))))))
        · exact Or.inr (Or.inr (Or.inl ⟨by omega, by omega, by omega⟩))
    · by_cases h3 : c < d
      · by_cases h4 : a < d
        · exact Or.inr (Or.inl ⟨by omega, h4, by omega⟩)
        · exact Or.inr (Or.inr (Or.inr (Or.inr (Or.inr (Or.inr (Or.inr ⟨h3, by omega, by omega⟩))))))
      · exact Or.inr (Or.inr (Or.inl ⟨by omega, by omega, by omega⟩))
  · by_cases h2 : b < c
    · by_cases h3 : b < d
      · by_cases h4 : a < d
        · exact Or.inr (Or.inr (Or.inr (Or.inr (Or.inr (Or.inl ⟨by omega, h4, h2⟩)))))
        · exact Or.inr (Or.inr (Or.inr (Or.inl ⟨h3, by omega, h2⟩)))
      · exact Or.inr (Or.inr (Or.inr (Or.inr (Or.inr (Or.inr (Or.inl ⟨by omega, h2, by omega⟩))))))
    · by_cases h3 : c < d
      · by_cases h4 : a < d
        · exact Or.inr (Or.inl ⟨by omega, h4, by omega⟩)
        · exact Or.inr (Or.inr (Or.inr (Or.inr (Or.inr (Or.inr (Or.inr ⟨h3, by omega, by omega⟩))))))
      · exact Or.inr (Or.inr (Or.inl ⟨by omega, by omega, by omega⟩))
theorem nq0 (κ : Nat) : nrm 0 κ = true ↔ kdg κ 16 0 < kdg κ 16 3 ∧ kdg κ 16 3 < kdg κ 16 12 ∧ kdg κ 16 0 < kdg κ 16 15 := by
  have e0 : sg 0 0 = 0 := rfl
  have e1 : sg 0 3 = 3 := rfl
  have e2 : sg 0 12 = 12 := rfl
  have e3 : sg 0 15 = 15 := rfl
  unfold nrm
  rw [e0, e1, e2, e3, decide_eq_true_iff]
theorem nq1 (κ : Nat) : nrm 1 κ = true ↔ kdg κ 16 12 < kdg κ 16 0 ∧ kdg κ 16 0 < kdg κ 16 15 ∧ kdg κ 16 12 < kdg κ 16 3 := by
  have e0 : sg 1 0 = 12 := rfl
  have e1 : sg 1 3 = 0 := rfl
  have e2 : sg 1 12 = 15 := rfl
  have e3 : sg 1 15 = 3 := rfl
  unfold nrm
  rw [e0, e1, e2, e3, decide_eq_true_iff]
theorem nq2 (κ : Nat) : nrm 2 κ = true ↔ kdg κ 16 15 < kdg κ 16 12 ∧ kdg κ 16 12 < kdg κ 16 3 ∧ kdg κ 16 15 < kdg κ 16 0 := by
  have e0 : sg 2 0 = 15 := rfl
  have e1 : sg 2 3 = 12 := rfl
  have e2 : sg 2 12 = 3 := rfl
  have e3 : sg 2 15 = 0 := rfl
  unfold nrm
  rw [e0, e1, e2, e3, decide_eq_true_iff]
theorem nq3 (κ : Nat) : nrm 3 κ = true ↔ kdg κ 16 3 < kdg κ 16 15 ∧ kdg κ 16 15 < kdg κ 16 0 ∧ kdg κ 16 3 < kdg κ 16 12 := by
  have e0 : sg 3 0 = 3 := rfl
  have e1 : sg 3 3 = 15 := rfl
  have e2 : sg 3 12 = 0 := rfl
  have e3 : sg 3 15 = 12 := rfl
  unfold nrm
  rw [e0, e1, e2, e3, decide_eq_true_iff]
theorem nq4 (κ : Nat) : nrm 4 κ = true ↔ kdg κ 16 0 < kdg κ 16 12 ∧ kdg κ 16 12 < kdg κ 16 3 ∧ kdg κ 16 0 < kdg κ 16 15 := by
  have e0 : sg 4 0 = 0 := rfl
  have e1 : sg 4 3 = 12 := rfl
  have e2 : sg 4 12 = 3 := rfl
  have e3 : sg 4 15 = 15 := rfl
  unfold nrm
  rw [e0, e1, e2, e3, decide_eq_true_iff]
theorem nq5 (κ : Nat) : nrm 5 κ = true ↔ kdg κ 16 3 < kdg κ 16 0 ∧ kdg κ 16 0 < kdg κ 16 15 ∧ kdg κ 16 3 < kdg κ 16 12 := by
  have e0 : sg 5 0 = 3 := rfl
  have e1 : sg 5 3 = 0 := rfl
  have e2 : sg 5 12 = 15 := rfl
  have e3 : sg 5 15 = 12 := rfl
  unfold nrm
  rw [e0, e1, e2, e3, decide_eq_true_iff]
theorem nq6 (κ : Nat) : nrm 6 κ = true ↔ kdg κ 16 15 < kdg κ 16 3 ∧ kdg κ 16 3 < kdg κ 16 12 ∧ kdg κ 16 15 < kdg κ 16 0 := by
  have e0 : sg 6 0 = 15 := rfl
  have e1 : sg 6 3 = 3 := rfl
  have e2 : sg 6 12 = 12 := rfl
  have e3 : sg 6 15 = 0 := rfl
  unfold nrm
  rw [e0, e1, e2, e3, decide_eq_true_iff]
theorem nq7 (κ : Nat) : nrm 7 κ = true ↔ kdg κ 16 12 < kdg κ 16 15 ∧ kdg κ 16 15 < kdg κ 16 0 ∧ kdg κ 16 12 < kdg κ 16 3 := by
  have e0 : sg 7 0 = 12 := rfl
  have e1 : sg 7 3 = 15 := rfl
  have e2 : sg 7 12 = 0 := rfl
  have e3 : sg 7 15 = 3 := rfl
  unfold nrm
  rw [e0, e1, e2, e3, decide_eq_true_iff]
theorem few4 {rd pd : Bool} {hd : Nat → Nat} (X : List Nat) (nd : X.Nodup) (hX : ∀ κ ∈ X, ∃ f, Sol 4 rd pd hd f ∧ kyr f 16 = κ) : X.length ≤ 7040 := by
  have one : ∀ t, t < 8 → X.countP (nrm t) ≤ 880 := fun t ht => by
    rw [List.countP_eq_length_filter]
    refine few_t ht (rd := rd) (pd := pd) (hd := hd) _ (List.Pairwise.filter _ nd) (fun κ hκ => ?_)
    rw [List.mem_filter] at hκ
    exact ⟨hX κ hκ.1, hκ.2⟩
  have c := cov8 (P0 := nrm 0) (P1 := nrm 1) (P2 := nrm 2) (P3 := nrm 3) (P4 := nrm 4) (P5 := nrm 5) (P6 := nrm 6) (P7 := nrm 7) X (fun κ hκ => by
    obtain ⟨f, F, ef⟩ := hX κ hκ
    have v := Sol_val (n := 4) (by decide) F
    have dd : ∀ p, p < 16 → kdg κ 16 p = f p - 1 := fun p hp => by rw [← ef]; exact kdg_kyr v hp
    have ne : ∀ p q, p < q → q < 16 → kdg κ 16 p ≠ kdg κ 16 q := fun p q hpq hq => by
      rw [dd p (by omega), dd q hq]
      have v1 := v p (Nat.lt_trans hpq hq)
      have v2 := v q hq
      have n1 := F.2.1 p q hpq hq
      omega
    rw [nq0, nq1, nq2, nq3, nq4, nq5, nq6, nq7]
    exact corn (ne 0 3 (by decide) (by decide)) (ne 0 12 (by decide) (by decide)) (ne 0 15 (by decide) (by decide)) (ne 3 12 (by decide) (by decide)) (ne 3 15 (by decide) (by decide)) (ne 12 15 (by decide) (by decide)))
  have c0 := one 0 (by decide)
  have c1 := one 1 (by decide)
  have c2 := one 2 (by decide)
  have c3 := one 3 (by decide)
  have c4 := one 4 (by decide)
  have c5 := one 5 (by decide)
  have c6 := one 6 (by decide)
  have c7 := one 7 (by decide)
  omega
/-- the lesser orders' places -/
def plc (n : Nat) : List (Nat × List Nat × List Nat) := (pln n).map (fun s => (s.1, s.2, []))
theorem plc_wf {n : Nat} (hn : 1 ≤ n ∧ n ≤ 3) : wfp [] (plc n) := by
  have hc : n = 1 ∨ n = 2 ∨ n = 3 := by omega
  rcases hc with rfl | rfl | rfl <;> exact wfb_ok _ _ (by decide +kernel)
set_option maxRecDepth 100000 in
theorem cn1 : Nat.ble (cnt 1 1 (plc 1) 0 4294901760) 7200 = true := by decide +kernel
set_option maxRecDepth 100000 in
theorem cn2 : Nat.ble (cnt 4 4 (plc 2) 0 4294901760) 7200 = true := by decide +kernel
set_option maxRecDepth 100000 in
theorem cn3 : Nat.ble (cnt 9 13 (plc 3) 0 4294901760) 7200 = true := by decide +kernel
theorem cn_all {n : Nat} (hn : 1 ≤ n ∧ n ≤ 3) : cnt (n * n) (TT n - (n - 1)) (plc n) 0 4294901760 ≤ 7200 := by
  have hc : n = 1 ∨ n = 2 ∨ n = 3 := by omega
  rcases hc with rfl | rfl | rfl
  · exact Nat.le_of_ble_eq_true cn1
  · exact Nat.le_of_ble_eq_true cn2
  · exact Nat.le_of_ble_eq_true cn3
theorem sol_few {n : Nat} {rd pd : Bool} {hd : Nat → Nat} (hn : 1 ≤ n ∧ n ≤ 4) (X : List Nat) (nd : X.Nodup) (hX : ∀ κ ∈ X, ∃ f, Sol n rd pd hd f ∧ kyr f (n * n) = κ) : X.length ≤ 7200 := by
  by_cases n4 : n = 4
  · subst n4
    exact Nat.le_trans (few4 X nd hX) (by decide)
  have nn : n * n ≤ 16 := Nat.mul_le_mul hn.2 hn.2
  have n0 : 0 < n * n := Nat.mul_pos hn.1 hn.1
  have lt := pl_lt n (by omega) hn.1
  have mem : ∀ s ∈ plc n, (s.1, s.2.1) ∈ pln n ∧ s.2.2 = [] := fun s hs => by
    obtain ⟨u, hu, rfl⟩ := List.mem_map.mp hs
    exact ⟨hu, rfl⟩
  refine Nat.le_trans (cnt_le (B := n * n) (W := TT n - (n - 1)) (fun κ c => kdg κ (n * n) c) nn (plc n) [] 0 4294901760 X (plc_wf ⟨hn.1, by omega⟩) (fun c hc => by cases hc) nd ?_ (fun _ _ c hc => by cases hc) ?_ ?_ ?_ ?_ ?_) (cn_all ⟨hn.1, by omega⟩)
  · intro κ hκ μ hμ e
    obtain ⟨f, F, rfl⟩ := hX κ hκ
    obtain ⟨g, G, rfl⟩ := hX μ hμ
    apply kyr_cg
    intro p hp
    obtain ⟨s, hs, es⟩ := pl_cov n (by omega) hn.1 p hp
    have h1 := e p (Or.inr ⟨(s.1, s.2, []), List.mem_map.mpr ⟨s, hs, rfl⟩, es⟩)
    change kdg _ _ _ = kdg _ _ _ at h1
    rw [kdg_kyr (Sol_val hn.2 F) hp, kdg_kyr (Sol_val hn.2 G) hp] at h1
    have := F.1 p hp
    have := G.1 p hp
    omega
  · intro s _
    show Nat.land (Nat.shiftRight 0 (Nat.mul 4 s.1)) 15 = 0
    have : Nat.shiftRight 0 (Nat.mul 4 s.1) = 0 := Nat.zero_shiftRight _
    rw [this]
    rfl
  · intro κ hκ s hs
    obtain ⟨f, F, rfl⟩ := hX κ hκ
    have hs1 : s.1 < n * n := (lt _ (mem s hs).1).1
    have := F.1 s.1 hs1
    show kdg _ _ _ < _ ∧ mbt _ (kdg _ _ _) = 0
    rw [kdg_kyr (Sol_val hn.2 F) hs1]
    exact ⟨by omega, mb0 _ (by omega)⟩
  · intro κ hκ
    obtain ⟨f, F, rfl⟩ := hX κ hκ
    refine List.Pairwise.imp_of_mem (R := fun s t => s.1 ≠ t.1) ?_ (List.Pairwise.map _ (fun _ _ q => q) (pl_nd n (by omega) hn.1))
    intro s t hs ht hne
    have hs1 : s.1 < n * n := (lt _ (mem s hs).1).1
    have ht1 : t.1 < n * n := (lt _ (mem t ht).1).1
    show kdg _ _ _ ≠ kdg _ _ _
    rw [kdg_kyr (Sol_val hn.2 F) hs1, kdg_kyr (Sol_val hn.2 F) ht1]
    have a1 := F.1 s.1 hs1
    have a2 := F.1 t.1 ht1
    rcases Nat.lt_or_gt_of_ne hne with c | c
    · have := F.2.1 s.1 t.1 c ht1
      omega
    · have := F.2.1 t.1 s.1 c hs1
      omega
  · intro κ hκ s hs hne
    obtain ⟨f, F, rfl⟩ := hX κ hκ
    have hs1 : s.1 < n * n := (lt _ (mem s hs).1).1
    have hs2 := (lt _ (mem s hs).1).2 hne
    have e1 : s.2.1.map (fun c => kdg (kyr f (n * n)) (n * n) c) = s.2.1.map (fun c => f c - 1) := by
      apply List.map_congr_left
      intro c hc
      exact kdg_kyr (Sol_val hn.2 F) (hs2.2 c hc)
    have e2 := sum_m1 (f := f) s.2.1 (fun x hx => (F.1 x (hs2.2 x hx)).1)
    have e3 : f s.1 + (s.2.1.map f).sum = TT n := pln_sum hn F _ (mem s hs).1 hne
    have a1 := F.1 s.1 hs1
    show kdg _ _ _ + 1 + (s.2.1.map (fun c => kdg (kyr f (n * n)) (n * n) c)).sum = _
    rw [e1, kdg_kyr (Sol_val hn.2 F) hs1]
    have e4 : s.2.1.length = n - 1 := hs2.1
    rw [e4] at e2
    omega
  · intro κ hκ s hs c hc
    rw [(mem s hs).2] at hc
    cases hc
end
