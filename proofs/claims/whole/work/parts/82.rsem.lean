/-! ===== what a right number means ===== -/
section
/-- the reference's rows, with what is laid below p -/
def RW (n : Nat) (hd a : Nat → Nat) (p : Nat) (g82 g83 g84 g85 : Nat → Int32) : Prop :=
  (∀ c, c < p → g82 c = nI (a c)) ∧ (∀ v, 1 ≤ v → v ≤ n * n → (g83 v = 0 ↔ ∀ c, c < p → a c ≠ v)) ∧ (∀ c, c < n * n → g84 c = nI (hd c)) ∧ (∀ v, 1 ≤ v → v ≤ n * n → (g85 v = -1 ∧ ∀ c, c < n * n → hd c ≠ v) ∨ ∃ c, c < n * n ∧ hd c = v ∧ g85 v = nI c)
theorem En_le {n c line : Nat} (hn : 1 ≤ n ∧ n ≤ 4) (hc : c < n * n) (e : En n c line) : ∀ i, i < n → lc n line i ≤ c := fun i hi => by
  have hl := (En_lt hn.1 hc e).1
  by_cases q : i = n - 1
  · rw [q, En_l1 n (by omega) hn.1 c hc line hl e]
    exact Nat.le_refl _
  · exact Nat.le_of_lt (En_l2 n (by omega) c hc line hl e i (by omega))
theorem ls_cg2 {f g : Nat → Nat} {n line : Nat} : ∀ k, (∀ i, i < k → f (lc n line i) = g (lc n line i)) → ls f n line k = ls g n line k
  | 0, _ => rfl
  | k + 1, e => by
    unfold ls
    rw [ls_cg2 k (fun i hi => e i (by omega)), e k (by omega)]
theorem Pt_s {n p v : Nat} {rd pd : Bool} {hd a : Nat → Nat} {g82 g83 g84 g85 : Nat → Int32} (hn : 1 ≤ n ∧ n ≤ 4) (hp : p < n * n) (H : HD n hd) (W : RW n hd a p g82 g83 g84 g85) (P : Pt n pd hd p a) (hv : 1 ≤ v ∧ v ≤ n * n) (R : RG g82 g83 g84 g85 n rd pd p v) (ok : okp n a p v) : Pt n pd hd (p + 1) (lay1 a p v) ∧ (p + 1 = n * n → Sol n rd pd hd (lay1 a p v)) := by
  have nn : n * n ≤ 16 := Nat.mul_le_mul hn.2 hn.2
  obtain ⟨w1, w2, w3, w4⟩ := W
  obtain ⟨p1, p2, p3, p4, p5⟩ := P
  obtain ⟨⟨b1, b2, b3⟩, _, B3_, B4_⟩ := R
  have new : lay1 a p v p = v := if_pos rfl
  have old : ∀ c, c < p → lay1 a p v c = a c := fun c hc => if_neg (by omega)
  have Q : Pt n pd hd (p + 1) (lay1 a p v) := by
    refine ⟨fun c hc => ?_, fun c e hce he => ?_, fun c hc h0 => ?_, fun c hc line en => ?_, fun hpd c hc h2 => ?_⟩
    · by_cases q : c = p
      · rw [q, new]; exact hv
      · rw [old c (by omega)]; exact p1 c (by omega)
    · by_cases q : e = p
      · rw [q, new, old c (by omega)]
        exact (w2 v hv.1 hv.2).mp b1 c (by omega)
      · rw [old c (by omega), old e (by omega)]
        exact p2 c e hce (by omega)
    · by_cases q : c = p
      · subst q
        rw [new]
        rw [w3 c hp] at b3
        have hle := H.1 c hp
        rcases b3 with b3 | b3
        · exact absurd b3 (nI_ne0 (by omega) (by omega))
        · exact ((nI_eq (by omega) (by omega)).mp b3).symm
      · rw [old c (by omega)]
        exact p3 c (by omega) h0
    · by_cases q : c = p
      · subst q
        have hl := (En_lt hn.1 hp en).1
        have lt := En_l2 n (by omega) c hp line hl en
        rw [ls_s hn.1, En_l1 n (by omega) hn.1 c hp line hl en, new, ls_cg2 (f := lay1 a c v) (g := a) (n - 1) (fun i hi => old _ (lt i hi))]
        exact ok line en
      · rw [ls_cg2 (f := lay1 a p v) (g := a) n (fun i hi => old _ (by have := En_le hn (by omega) en i hi; omega))]
        exact p4 c (by omega) line en
    · by_cases q : c = p
      · subst q
        have := B3_ hpd h2
        rw [new]
        by_cases q2 : 2 * c = n * n - 1
        · rw [if_pos q2] at this
          have e1 := (nI_eq (by omega) (by omega)).mp this
          rw [show n * n - 1 - c = c by omega, new]
          omega
        · rw [if_neg q2, w1 _ (by omega), nI_add] at this
          have h3 := p1 (n * n - 1 - c) (by omega)
          have e1 := (nI_eq (by omega) (by omega)).mp this
          rw [old _ (by omega)]
          omega
      · rw [old c (by omega), old (n * n - 1 - c) (by omega)]
        exact p5 hpd c (by omega) h2
  refine ⟨Q, fun hN => ?_⟩
  rw [hN] at Q
  obtain ⟨q1, q2, q3, q4, q5⟩ := Q
  refine ⟨q1, q2, q3, fun line hl ha => ?_, fun hpd c hc => ?_⟩
  · by_cases c : line < 2 * n ∨ line = 2 * n ∨ line = 4 * n - 1
    · obtain ⟨e, he, en⟩ := En_cov n (by omega) hn.1 line hl c
      exact q4 e he line en
    · have hrd : rd = true := by
        rcases ha with x | x | x | x
        · exact absurd (Or.inl x) c
        · exact absurd (Or.inr (Or.inl x)) c
        · exact absurd (Or.inr (Or.inr x)) c
        · exact x
      have := B4_ hrd (by omega) line hl
      have rowv : ∀ e, e < n * n → upd g82 p (nI v) e = nI (lay1 a p v e) := fun e he => by
        rw [upd_at]
        unfold lay1
        by_cases x : e = p
        · rw [if_pos x, if_pos x]
        · rw [if_neg x, if_neg x]
          exact w1 e (by omega)
      rw [s32_ls (f := lay1 a p v) n (fun i hi => rowv _ (lc_lt hl hi))] at this
      have tt := TT_le hn
      have bl := ls_le (f := lay1 a p v) hl (fun e he => by have := q1 e he; omega) n (Nat.le_refl _)
      exact (nI_eq (by omega) (by omega)).mp this
  · by_cases x : n * n - 1 ≤ 2 * c
    · exact q5 hpd c hc x
    · have := q5 hpd (n * n - 1 - c) (by omega) (by omega)
      rw [show n * n - 1 - (n * n - 1 - c) = c by omega] at this
      omega
theorem col_2 : ∀ n, n < 5 → ∀ p, p < n * n → p / n = n - 2 → 2 ≤ n → lc n (n + p % n) (n - 2) = p ∧ lc n (n + p % n) (n - 1) = p + n ∧ p + n < n * n := by decide +kernel
theorem col_3 : ∀ n, n < 5 → ∀ p, p < n * n → ∀ i, i < n - 2 → (decide (p / n ≠ n - 2) || decide (lc n (n + p % n) i < p)) = true := by decide +kernel
theorem ls_2 {a : Nat → Nat} {n line : Nat} (hn : 2 ≤ n) : ls a n line n = ls a n line (n - 2) + a (lc n line (n - 2)) + a (lc n line (n - 1)) := by
  obtain ⟨m, rfl⟩ : ∃ m, n = m + 2 := ⟨n - 2, by omega⟩
  rfl
theorem RG_sol {n p : Nat} {rd pd : Bool} {hd a f : Nat → Nat} {g82 g83 g84 g85 : Nat → Int32} (hn : 1 ≤ n ∧ n ≤ 4) (hp : p < n * n) (W : RW n hd a p g82 g83 g84 g85) (S : Sol n rd pd hd f) (ag_ : ∀ c, c < p → f c = a c) : RG g82 g83 g84 g85 n rd pd p (f p) := by
  have nn : n * n ≤ 16 := Nat.mul_le_mul hn.2 hn.2
  obtain ⟨w1, w2, w3, w4⟩ := W
  obtain ⟨s1, s2, s3, s4, s5⟩ := S
  have hv := s1 p hp
  have ne : ∀ c e, c < n * n → e < n * n → c ≠ e → f c ≠ f e := fun c e hc he h => by
    rcases Nat.lt_or_gt_of_ne h with l | l
    · exact s2 c e l he
    · exact fun q => s2 e c l hc q.symm
  have atOk : ∀ x, x < n * n → g85 (f x) = -1 ∨ g85 (f x) = nI x := fun x hx => by
    have hx1 := s1 x hx
    rcases w4 (f x) hx1.1 hx1.2 with q | ⟨c, hc, e1, e2⟩
    · exact Or.inl q.1
    · right
      rw [e2]
      have e3 := s3 c hc (by omega)
      by_cases q : c = x
      · rw [q]
      · exact absurd (e3.trans e1) (ne c x hc hx q)
  have hoOk : ∀ x, x < n * n → g84 x = 0 ∨ g84 x = nI (f x) := fun x hx => by
    rw [w3 x hx]
    by_cases q : hd x = 0
    · left
      rw [q]
      rfl
    · right
      rw [s3 x hx q]
  refine ⟨⟨?_, atOk p hp, hoOk p hp⟩, fun n2 hr => ?_, fun hpd h2 => ?_, fun hrd hN line hl => ?_⟩
  · refine (w2 _ hv.1 hv.2).mpr (fun c hc => ?_)
    rw [← ag_ c hc]
    exact ne c p (by omega) hp (by omega)
  · obtain ⟨l1, l2, l3⟩ := col_2 n (by omega) p hp hr n2
    have lt : ∀ i, i < n - 2 → lc n (n + p % n) i < p := fun i hi => by
      have := col_3 n (by omega) p hp i hi
      simpa [hr] using this
    have hm : p % n < n := Nat.mod_lt _ hn.1
    have e1 := s4 (n + p % n) (by omega) (Or.inl (by omega))
    rw [ls_2 n2, l1, l2] at e1
    have e2 : s32 g82 n (n + p % n) (n - 2) = nI (ls f n (n + p % n) (n - 2)) := s32_ls (n - 2) (fun i hi => by rw [w1 _ (lt i hi), ag_ _ (lt i hi)])
    have hw := s1 (p + n) l3
    refine ⟨f (p + n), ?_, hw.1, hw.2, ne (p + n) p l3 hp (by omega), (w2 _ hw.1 hw.2).mpr (fun c hc => ?_), atOk _ l3, hoOk _ l3⟩
    · rw [e2, pk_sub (by omega), pk_sub (by omega)]
      congr 1
      omega
    · rw [← ag_ c hc]
      exact ne c (p + n) (by omega) l3 (by omega)
  · have e := s5 hpd p hp
    by_cases q2 : 2 * p = n * n - 1
    · rw [if_pos q2]
      rw [show n * n - 1 - p = p by omega] at e
      congr 1
      omega
    · rw [if_neg q2, w1 _ (by omega), nI_add, ← ag_ _ (by omega), e]
  · have rowv : ∀ e, e < n * n → upd g82 p (nI (f p)) e = nI (f e) := fun e he => by
      rw [upd_at]
      by_cases x : e = p
      · rw [if_pos x, x]
      · rw [if_neg x, w1 e (by omega), ag_ e (by omega)]
    rw [s32_ls (f := f) n (fun i hi => rowv _ (lc_lt hl hi)), s4 line hl (Or.inr (Or.inr (Or.inr hrd)))]
theorem okp_sol {n p : Nat} {rd pd : Bool} {hd a f : Nat → Nat} (hn : 1 ≤ n ∧ n ≤ 4) (hp : p < n * n) (S : Sol n rd pd hd f) (ag_ : ∀ c, c < p → f c = a c) : okp n a p (f p) := by
  intro line en
  have hl := En_lt hn.1 hp en
  have lt := En_l2 n (by omega) p hp line hl.1 en
  have e1 := S.2.2.2.1 line hl.1 (by
    rcases hl.2 with q | q | q
    · exact Or.inl q
    · exact Or.inr (Or.inl q)
    · exact Or.inr (Or.inr (Or.inl q)))
  rw [ls_s hn.1, En_l1 n (by omega) hn.1 p hp line hl.1 en, ls_cg2 (f := f) (g := a) (n - 1) (fun i hi => ag_ _ (lt i hi))] at e1
  exact e1
end
