/-! ===== how many there are, at most: a count that bounds ===== -/
section
/-- a number, worked out before it is used -/
noncomputable def frc (x : Nat) (f : Nat → Nat) : Nat := Nat.rec (motive := fun _ => Nat) 0 (fun k _ => f k) (Nat.add x 1)
theorem frc_eq (x : Nat) (f : Nat → Nat) : frc x f = f x := rfl
/-- x, if the digit a is free in the mask -/
noncomputable def fre1 (m a : Nat) (x : Nat) : Nat := Nat.rec (motive := fun _ => Nat) x (fun _ _ => 0) (Nat.land (Nat.shiftRight m a) 1)
theorem fre1_0 {m a x : Nat} (h : Nat.land (Nat.shiftRight m a) 1 = 0) : fre1 m a x = x := by
  unfold fre1
  rw [h]
  rfl
/-- all free digits below k -/
noncomputable def lpc (m : Nat) (f : Nat → Nat) (k : Nat) : Nat := Nat.rec (motive := fun _ => Nat) 0 (fun a ih => Nat.add (fre1 m a (f a)) ih) k
theorem lpc_s (m : Nat) (f : Nat → Nat) (k : Nat) : lpc m f (k + 1) = fre1 m k (f k) + lpc m f k := rfl
/-- the digit w - 1, if free -/
noncomputable def foc (m : Nat) (f : Nat → Nat) (w : Nat) : Nat := Nat.rec (motive := fun _ => Nat) 0 (fun a _ => fre1 m a (f a)) w
theorem foc_s (m : Nat) (f : Nat → Nat) (k : Nat) : foc m f (k + 1) = fre1 m k (f k) := rfl
/-- the digit of a row at a place -/
def rdg (R c : Nat) : Nat := Nat.land (Nat.shiftRight R (Nat.mul 4 c)) 15
/-- the digits of row R at the places ds, summed -/
noncomputable def dgs (R : Nat) (ds : List Nat) : Nat := List.rec (motive := fun _ => Nat) 0 (fun c _ ih => Nat.add (Nat.land (Nat.shiftRight R (Nat.mul 4 c)) 15) ih) ds
theorem dgs_sum (R : Nat) : ∀ ds, dgs R ds = (ds.map (rdg R)).sum
  | [] => rfl
  | c :: ds => by
    show rdg R c + dgs R ds = _
    rw [dgs_sum R ds, List.map_cons, List.sum_cons]
/-- x, if the digit a is above those of row R at the places ls -/
noncomputable def abv (R a : Nat) (x : Nat) (ls : List Nat) : Nat := List.rec (motive := fun _ => Nat) x (fun c _ ih => Nat.rec (motive := fun _ => Nat) 0 (fun _ _ => ih) (Nat.sub a (Nat.land (Nat.shiftRight R (Nat.mul 4 c)) 15))) ls
theorem abv_1 {R a x : Nat} : ∀ {ls : List Nat}, (∀ c ∈ ls, rdg R c < a) → abv R a x ls = x
  | [], _ => rfl
  | c :: ls, h => by
    have ih := abv_1 (R := R) (a := a) (x := x) (ls := ls) (fun y hy => h y (List.mem_cons_of_mem _ hy))
    have h1 := h c List.mem_cons_self
    have e : abv R a x (c :: ls) = Nat.rec (motive := fun _ => Nat) 0 (fun _ _ => abv R a x ls) (a - rdg R c) := rfl
    rw [e, ih]
    obtain ⟨y, hy⟩ : ∃ y, a - rdg R c = y + 1 := ⟨a - rdg R c - 1, by omega⟩
    rw [hy]
noncomputable def cnt (B W : Nat) (P : List (Nat × List Nat × List Nat)) : Nat → Nat → Nat := List.rec (motive := fun _ => Nat → Nat → Nat) (fun _ _ => 1) (fun s _ ih R m => List.rec (motive := fun _ => Nat) (lpc m (fun a => abv R a (frc (Nat.lor R (Nat.shiftLeft a (Nat.mul 4 s.1))) (fun R' => frc (Nat.lor m (Nat.shiftLeft 1 a)) (fun m' => ih R' m'))) s.2.2) B) (fun _ _ _ => foc m (fun a => abv R a (frc (Nat.lor R (Nat.shiftLeft a (Nat.mul 4 s.1))) (fun R' => frc (Nat.lor m (Nat.shiftLeft 1 a)) (fun m' => ih R' m'))) s.2.2) (Nat.sub W (dgs R s.2.1))) s.2.1) P
theorem cnt_nil (B W R m : Nat) : cnt B W [] R m = 1 := rfl
theorem cnt_free (B W R m c : Nat) (lb : List Nat) (P : List (Nat × List Nat × List Nat)) : cnt B W ((c, [], lb) :: P) R m = lpc m (fun a => abv R a (cnt B W P (R ||| a <<< (4 * c)) (m ||| 1 <<< a)) lb) B := rfl
theorem cnt_forc (B W R m c d0 : Nat) (ds lb : List Nat) (P : List (Nat × List Nat × List Nat)) : cnt B W ((c, d0 :: ds, lb) :: P) R m = foc m (fun a => abv R a (cnt B W P (R ||| a <<< (4 * c)) (m ||| 1 <<< a)) lb) (W - dgs R (d0 :: ds)) := rfl
theorem rdg_sl : ∀ c, c < 16 → ∀ c', c' < 16 → ∀ a, a < 16 → rdg (a <<< (4 * c)) c' = if c' = c then a else 0 := by decide +kernel
theorem rdg_or (R y c : Nat) : rdg (R ||| y) c = rdg R c ||| rdg y c := by
  show ((R ||| y) >>> (4 * c)) &&& 15 = (R >>> (4 * c) &&& 15) ||| (y >>> (4 * c) &&& 15)
  rw [Nat.shiftRight_or_distrib, Nat.and_or_distrib_right]
/-- whether the digit x is taken in the mask -/
def mbt (m x : Nat) : Nat := Nat.land (Nat.shiftRight m x) 1
theorem mbt_sl : ∀ a, a < 16 → ∀ x, x < 16 → mbt (1 <<< a) x = if x = a then 1 else 0 := by decide +kernel
theorem mbt_or (m y x : Nat) : mbt (m ||| y) x = mbt m x ||| mbt y x := by
  show ((m ||| y) >>> x) &&& 1 = (m >>> x &&& 1) ||| (y >>> x &&& 1)
  rw [Nat.shiftRight_or_distrib, Nat.and_or_distrib_right]
theorem lpc_le {m : Nat} {f : Nat → Nat} (g : Nat → Nat) : ∀ (B : Nat) (X : List Nat), (∀ κ ∈ X, g κ < B) → (∀ a, a < B → (X.filter (fun κ => decide (g κ = a))).length ≤ fre1 m a (f a)) → X.length ≤ lpc m f B
  | 0, X, h, _ => by
    cases X with
    | nil => exact Nat.le_refl _
    | cons x X => exact absurd (h x List.mem_cons_self) (by omega)
  | B + 1, X, h, k => by
    rw [lpc_s, List.length_eq_countP_add_countP (fun κ => decide (g κ = B))]
    refine Nat.add_le_add ?_ ?_
    · rw [List.countP_eq_length_filter]
      exact k B (by omega)
    · rw [List.countP_eq_length_filter]
      refine lpc_le g B _ (fun κ hκ => ?_) (fun a ha => ?_)
      · rw [List.mem_filter] at hκ
        have h1 := h κ hκ.1
        have h2 : ¬ g κ = B := by
          have := hκ.2
          simpa using this
        omega
      · refine Nat.le_trans ?_ (k a (by omega))
        rw [List.filter_filter]
        apply Nat.le_of_eq
        congr 1
        apply List.filter_congr
        intro x _
        by_cases c : g x = a
        · have : ¬ a = B := by omega
          simp [c, this]
        · simp [c]
/-- the plan's places are new, and what it asks for is there -/
def wfp : List Nat → List (Nat × List Nat × List Nat) → Prop
  | _, [] => True
  | dn, s :: P => s.1 < 16 ∧ s.1 ∉ dn ∧ (∀ c ∈ s.2.1 ++ s.2.2, c ∈ dn) ∧ wfp (s.1 :: dn) P
theorem wfp_new : ∀ {P : List (Nat × List Nat × List Nat)} {dn : List Nat}, wfp dn P → ∀ s ∈ P, s.1 < 16 ∧ s.1 ∉ dn
  | [], _, _, s, hs => by cases hs
  | t :: P, dn, w, s, hs => by
    rcases List.mem_cons.mp hs with rfl | hs
    · exact ⟨w.1, w.2.1⟩
    · have := wfp_new w.2.2.2 s hs
      exact ⟨this.1, fun q => this.2 (List.mem_cons_of_mem _ q)⟩
theorem cnt_le {B W : Nat} (dg : Nat → Nat → Nat) (hB : B ≤ 16) : ∀ (P : List (Nat × List Nat × List Nat)) (dn : List Nat) (R m : Nat) (X : List Nat), wfp dn P → (∀ c ∈ dn, c < 16) → X.Nodup → (∀ κ ∈ X, ∀ μ ∈ X, (∀ c, (c ∈ dn ∨ ∃ s ∈ P, s.1 = c) → dg κ c = dg μ c) → κ = μ) → (∀ κ ∈ X, ∀ c ∈ dn, dg κ c = rdg R c) → (∀ s ∈ P, rdg R s.1 = 0) → (∀ κ ∈ X, ∀ s ∈ P, dg κ s.1 < B ∧ mbt m (dg κ s.1) = 0) → (∀ κ ∈ X, P.Pairwise (fun s t => dg κ s.1 ≠ dg κ t.1)) → (∀ κ ∈ X, ∀ s ∈ P, s.2.1 ≠ [] → dg κ s.1 + 1 + (s.2.1.map (dg κ)).sum = W) → (∀ κ ∈ X, ∀ s ∈ P, ∀ c ∈ s.2.2, dg κ c < dg κ s.1) → X.length ≤ cnt B W P R m
  | [], dn, R, m, X, _, _, nd, hinj, hR, _, _, _, _, _ => by
    rw [cnt_nil]
    cases X with
    | nil => exact Nat.zero_le _
    | cons x X =>
      cases X with
      | nil => exact Nat.le_refl _
      | cons y X =>
        exfalso
        have e := hinj x List.mem_cons_self y (List.mem_cons_of_mem _ List.mem_cons_self) (fun c hc => by
          rcases hc with hc | ⟨s, hs, _⟩
          · rw [hR x List.mem_cons_self c hc, hR y (List.mem_cons_of_mem _ List.mem_cons_self) c hc]
          · cases hs)
        have := (List.pairwise_cons.mp nd).1 y List.mem_cons_self
        exact this e
  | s :: P, dn, R, m, X, w, hdn, nd, hinj, hR, hz, hm, hd, hf, hl => by
    obtain ⟨w1, w2, w3, w4⟩ := w
    -- those with the digit a at the place
    have key : ∀ a, a < B → ∀ Y : List Nat, Y.Nodup → (∀ κ ∈ Y, κ ∈ X ∧ dg κ s.1 = a) → Y.length ≤ cnt B W P (R ||| a <<< (4 * s.1)) (m ||| 1 <<< a) := by
      intro a ha Y nY hY
      refine cnt_le dg hB P (s.1 :: dn) _ _ Y w4 ?_ nY ?_ ?_ ?_ ?_ ?_ ?_ ?_
      · intro c hc
        rcases List.mem_cons.mp hc with rfl | hc
        · exact w1
        · exact hdn c hc
      · intro κ hκ μ hμ e
        refine hinj κ (hY κ hκ).1 μ (hY μ hμ).1 (fun c hc => e c ?_)
        rcases hc with hc | ⟨t, ht, rfl⟩
        · exact Or.inl (List.mem_cons_of_mem _ hc)
        · rcases List.mem_cons.mp ht with rfl | ht
          · exact Or.inl List.mem_cons_self
          · exact Or.inr ⟨t, ht, rfl⟩
      · intro κ hκ c hc
        rcases List.mem_cons.mp hc with rfl | hc
        · rw [(hY κ hκ).2, rdg_or, hz s List.mem_cons_self, rdg_sl s.1 w1 s.1 w1 a (by omega), if_pos rfl, Nat.zero_or]
        · have hne : ¬ c = s.1 := fun q => w2 (q ▸ hc)
          rw [rdg_or, rdg_sl s.1 w1 c (hdn c hc) a (by omega), if_neg hne, Nat.or_zero]
          exact hR κ (hY κ hκ).1 c hc
      · intro t ht
        have wt := wfp_new w4 t ht
        have hne : ¬ t.1 = s.1 := fun q => wt.2 (q ▸ List.mem_cons_self)
        rw [rdg_or, rdg_sl s.1 w1 t.1 wt.1 a (by omega), if_neg hne, Nat.or_zero]
        exact hz t (List.mem_cons_of_mem _ ht)
      · intro κ hκ t ht
        have h1 := hm κ (hY κ hκ).1 t (List.mem_cons_of_mem _ ht)
        have h2 := (List.pairwise_cons.mp (hd κ (hY κ hκ).1)).1 t ht
        rw [(hY κ hκ).2] at h2
        refine ⟨h1.1, ?_⟩
        rw [mbt_or, mbt_sl a (by omega) _ (by omega), if_neg (fun q => h2 q.symm), Nat.or_zero]
        exact h1.2
      · intro κ hκ
        exact (List.pairwise_cons.mp (hd κ (hY κ hκ).1)).2
      · intro κ hκ t ht
        exact hf κ (hY κ hκ).1 t (List.mem_cons_of_mem _ ht)
      · intro κ hκ t ht
        exact hl κ (hY κ hκ).1 t (List.mem_cons_of_mem _ ht)
    obtain ⟨c, ds, lb⟩ := s
    have low : ∀ κ ∈ X, ∀ x ∈ lb, rdg R x < dg κ c := fun κ hκ x hx => by
      rw [← hR κ hκ x (w3 x (List.mem_append_right _ hx))]
      exact hl κ hκ _ List.mem_cons_self x hx
    cases ds with
    | nil =>
      rw [cnt_free]
      refine lpc_le (fun κ => dg κ c) B X (fun κ hκ => (hm κ hκ _ List.mem_cons_self).1) (fun a ha => ?_)
      have nF : (X.filter (fun κ => decide (dg κ c = a))).Nodup := List.Pairwise.filter _ nd
      have hF : ∀ κ ∈ X.filter (fun κ => decide (dg κ c = a)), κ ∈ X ∧ dg κ c = a := fun κ hκ => by
        rw [List.mem_filter] at hκ
        exact ⟨hκ.1, of_decide_eq_true hκ.2⟩
      by_cases c0 : mbt m a = 0
      · rw [fre1_0 c0]
        cases hq : X.filter (fun κ => decide (dg κ c = a)) with
        | nil => exact Nat.zero_le _
        | cons y Y =>
          have hy := hF y (by rw [hq]; exact List.mem_cons_self)
          rw [← hq, abv_1 (fun x hx => by rw [← hy.2]; exact low y hy.1 x hx)]
          exact key a ha _ nF hF
      · have : X.filter (fun κ => decide (dg κ c = a)) = [] := by
          apply List.eq_nil_iff_forall_not_mem.mpr
          intro κ hκ
          have h1 := hF κ hκ
          have h2 := (hm κ h1.1 _ List.mem_cons_self).2
          change mbt m (dg κ c) = 0 at h2
          rw [h1.2] at h2
          exact c0 h2
        rw [this]
        exact Nat.zero_le _
    | cons d0 ds =>
      rw [cnt_forc]
      cases X with
      | nil => exact Nat.zero_le _
      | cons x X =>
        have hx : x ∈ x :: X := List.mem_cons_self
        have hall : ∀ κ ∈ x :: X, dg κ c + 1 = W - dgs R (d0 :: ds) := by
          intro κ hκ
          have h1 := hf κ hκ _ List.mem_cons_self (by intro q; cases q)
          change dg κ c + 1 + ((d0 :: ds).map (dg κ)).sum = W at h1
          have h2 : (d0 :: ds).map (dg κ) = (d0 :: ds).map (rdg R) := by
            apply List.map_congr_left
            intro y hy
            exact hR κ hκ y (w3 y (List.mem_append_left _ hy))
          rw [h2, ← dgs_sum] at h1
          omega
        rw [← hall x hx, foc_s]
        have h3 := hm x hx _ List.mem_cons_self
        change dg x c < B ∧ mbt m (dg x c) = 0 at h3
        rw [fre1_0 h3.2, abv_1 (low x hx)]
        refine key (dg x c) h3.1 _ nd (fun κ hκ => ⟨hκ, ?_⟩)
        have a1 := hall κ hκ
        have a2 := hall x hx
        change dg κ c = dg x c
        omega
end
