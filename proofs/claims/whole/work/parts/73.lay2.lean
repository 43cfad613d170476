/-! ===== the class lays a square, place by place ===== -/
section
variable {E : mE} {d : Nat} {h h1 h2 : mH} {b : Nat}
/-- place j of the plan, and what it follows from -/
def cs (n j : Nat) : Nat := ((pln n).getD j (0, [])).1
def dsn (n j : Nat) : List Nat := ((pln n).getD j (0, [])).2
theorem pz_cs : ∀ n, n < 5 → 1 ≤ n → ∀ j, j < n * n → cs n j < n * n ∧ (zsv (n - 1)).length = 4 * (n * n) ∧ (zsv (n - 1)).getD (4 * j) 0 = nI (cs n j) ∧ (dsn n j = [] → (zsv (n - 1)).getD (4 * j + 1) 0 < 0) := by decide +kernel
theorem pz_d1 : ∀ n, n < 5 → 1 ≤ n → ∀ j, j < n * n → dsn n j ≠ [] → ¬ (zsv (n - 1)).getD (4 * j + 1) 0 < 0 ∧ (dsn n j).length = n - 1 := by decide +kernel
theorem pz_d2 : ∀ n, n < 5 → 1 ≤ n → ∀ j, j < n * n → dsn n j ≠ [] → ∀ i, i < n - 1 → (zsv (n - 1)).getD (4 * j + (i + 1)) 0 = nI ((dsn n j).getD i 0) := by decide +kernel
theorem pz_d3 : ∀ n, n < 5 → 1 ≤ n → ∀ j, j < n * n → ∀ x ∈ dsn n j, ∃ i, i < j ∧ cs n i = x := by decide +kernel
theorem pz_ds (n : Nat) (h5 : n < 5) (h1 : 1 ≤ n) (j : Nat) (hj : j < n * n) (hd : dsn n j ≠ []) : ¬ (zsv (n - 1)).getD (4 * j + 1) 0 < 0 ∧ (dsn n j).length = n - 1 ∧ (∀ i, i < n - 1 → (zsv (n - 1)).getD (4 * j + (i + 1)) 0 = nI ((dsn n j).getD i 0)) ∧ ∀ x ∈ dsn n j, ∃ i, i < j ∧ cs n i = x := ⟨(pz_d1 n h5 h1 j hj hd).1, (pz_d1 n h5 h1 j hj hd).2, pz_d2 n h5 h1 j hj hd, pz_d3 n h5 h1 j hj⟩
theorem pz_inj : ∀ n, n < 5 → 1 ≤ n → ∀ j, j < n * n → ∀ i, i < j → cs n i ≠ cs n j := by decide +kernel
theorem pz_cov : ∀ n, n < 5 → 1 ≤ n → ∀ p, p < n * n → ∃ j, j < n * n ∧ cs n j = p := by decide +kernel
theorem pz_len : ∀ n, n < 5 → 1 ≤ n → (pln n).length = n * n := by decide +kernel
theorem pz_mem (n : Nat) (h5 : n < 5) (h1 : 1 ≤ n) (j : Nat) (hj : j < n * n) : (cs n j, dsn n j) ∈ pln n := by
  have hl := pz_len n h5 h1
  have hj' : j < (pln n).length := by omega
  have e : (cs n j, dsn n j) = (pln n)[j] := by
    unfold cs dsn
    rw [List.getD_eq_getElem?_getD, List.getElem?_eq_getElem hj']
    rfl
  rw [e]
  exact List.getElem_mem hj'
/-- what is left of a sum -/
def rsm (f : Nat → Int32) (x : Int32) : List Nat → Int32
  | [] => x
  | c :: l => rsm f (x - f c) l
theorem lp_rest {n s : Nat} {ask : Int32} {hd : Nat → Nat} (hE : zES E) (hn : 1 ≤ n ∧ n ≤ 4) (C : FC E b n ask hd h) (hs : s < n * n) (hds : dsn n s ≠ []) : ∀ k i x, i + k = n - 1 → zl E d kX0_rest 7 [some (.ref (b + 8)), some (.int (nI (4 * s))), some (.int x), some (.int (nI (i + 1)))] [] h = some (some (.int (rsm (hI h (b + 10)) x ((dsn n s).drop i))), h)
  | 0, i, x, e => by
    obtain ⟨L, c1, c2, c3, c4, c5, c6, c7, c8⟩ := C
    have hl := (pz_ds n (by omega) hn.1 s hs hds).2.1
    have q1 : nI n ≤ nI (i + 1) := nI_le (by omega) (by omega)
    have e0 : (dsn n s).drop i = [] := List.drop_eq_nil_of_le (by omega)
    rw [s_X0_rest_7, e0]
    simp (decide := true) only [s_X0_rest_0, s_X0_rest_1, s_X0_rest_4, s_X0_rest_5, s_X0_rest_6, s_X0_rest_8, s_X0_rest_9, s_X0_rest_12, s_X0_rest_15, s_X0_rest_16, s_X0_rest_17, s_X0_rest_20, s_X0_rest_23, s_X0_rest_24, s_X0_rest_27, s_X0_rest_28, s_X0_rest_29, s_X0_rest_30, s_X0_rest_31, s_X0_rest_32, s_X0_rest_33, s_X0_rest_34, s_X0_rest_37, s_X0_rest_40, s_X0_rest_41, if_true, if_false, and_true, true_and, and_false, false_and, true_or, or_true, or_false, false_or, eq_self, not_true_eq_false, not_false_eq_true, zv_int, zv_ref, zv_null, zv_none, hK_sI, hF_sI, hJ_sI, hN_sI, hZ_sI, hI_sI_same, hK_sJ, hF_sJ, hI_sJ, hN_sJ, hZ_sJ, hJ_sJ_same, hK_sF, hI_sF, hJ_sF, hN_sF, hZ_sF, Option.bind_some, Option.toList_some, Option.toList_none, List.cons_append, List.nil_append, zq_ref, zq_null, L.k8, c2, q1, rsm]
  | k + 1, i, x, e => by
    have C' := C
    obtain ⟨L, c1, c2, c3, c4, c5, c6, c7, c8⟩ := C'
    have nn : n * n ≤ 16 := Nat.mul_le_mul hn.2 hn.2
    obtain ⟨_, hl, hz, hm⟩ := pz_ds n (by omega) hn.1 s hs hds
    obtain ⟨f, hf, hv⟩ := hE (n - 1) (by omega)
    have hlen := (pz_cs n (by omega) hn.1 s hs).2.1
    rw [hlen] at hf hv
    have q1 : ¬ nI n ≤ nI (i + 1) := nI_ge (by omega) (by omega)
    have il : i < (dsn n s).length := by omega
    have e0 : (dsn n s).drop i = (dsn n s).getD i 0 :: (dsn n s).drop (i + 1) := by
      rw [List.drop_eq_getElem_cons il, List.getD_eq_getElem?_getD, List.getElem?_eq_getElem il]
      rfl
    have hc : (dsn n s).getD i 0 < n * n := by
      obtain ⟨j, hj, ej⟩ := hm _ (getD_mem il)
      rw [← ej]
      exact (pz_cs n (by omega) hn.1 j (by omega)).1
    have z0 : zR (nI (4 * s + (i + 1))) (4 * (n * n)) := zR_to (by omega) (by omega)
    have z1 : (nI (4 * s + (i + 1))).toNatClampNeg = 4 * s + (i + 1) := nI_clamp (by omega)
    have fv : f (4 * s + (i + 1)) = nI ((dsn n s).getD i 0) := by rw [hv _ (by omega), hz i (by omega)]
    have z2 : zR (nI ((dsn n s).getD i 0)) 144 := zR_to (by decide) (by omega)
    have z3 : (nI ((dsn n s).getD i 0)).toNatClampNeg = (dsn n s).getD i 0 := nI_clamp (by omega)
    have k0 : (hK h (E.1 (n - 1))).1 = 0 := c1 _ (by omega)
    rw [s_X0_rest_7, e0]
    simp (decide := true) only [s_X0_rest_0, s_X0_rest_1, s_X0_rest_4, s_X0_rest_5, s_X0_rest_6, s_X0_rest_8, s_X0_rest_9, s_X0_rest_12, s_X0_rest_15, s_X0_rest_16, s_X0_rest_17, s_X0_rest_20, s_X0_rest_23, s_X0_rest_24, s_X0_rest_27, s_X0_rest_28, s_X0_rest_29, s_X0_rest_32, s_X0_rest_33, s_X0_rest_34, s_X0_rest_37, s_X0_rest_40, s_X0_rest_41, s_X0_rest_31, s_X0_rest_30r k0 hf z0, if_true, if_false, and_true, true_and, and_false, false_and, true_or, or_true, or_false, false_or, eq_self, not_true_eq_false, not_false_eq_true, zv_int, zv_ref, zv_null, zv_none, hK_sI, hF_sI, hJ_sI, hN_sI, hZ_sI, hI_sI_same, hK_sJ, hF_sJ, hI_sJ, hN_sJ, hZ_sJ, hJ_sJ_same, hK_sF, hI_sF, hJ_sF, hN_sF, hZ_sF, Option.bind_some, Option.toList_some, Option.toList_none, List.cons_append, List.nil_append, zq_ref, zq_null, L.k8, L.p8_0, L.k9, L.p9_0, L.k10, c2, c6, q1, nI_add, z1, fv, z2, z3, nI_1, rsm]
    exact lp_rest hE hn C hs hds k (i + 1) _ (by omega)
theorem c_X0_rest {n s : Nat} {ask : Int32} {hd : Nat → Nat} (hE : zES E) (hn : 1 ≤ n ∧ n ≤ 4) (C : FC E b n ask hd h) (hs : s < n * n) (hds : dsn n s ≠ []) : cal E (d + 1) kX0_rest [.ref (b + 8), .int (nI (4 * s))] h = some (some (.int (rsm (hI h (b + 10)) (nI (TT n)) (dsn n s))), h) := by
  have := lp_rest (E := E) (d := d) hE hn C hs hds (n - 1) 0 (nI (TT n)) (by omega)
  rw [List.drop_zero] at this
  have n1 : nI (0 + 1) = 1 := rfl
  rw [n1] at this
  obtain ⟨L, c1, c2, c3, c4, c5, c6, c7, c8⟩ := C
  simp (decide := true) only [e_X0_rest, s_X0_rest_0, s_X0_rest_1, s_X0_rest_4, s_X0_rest_5, s_X0_rest_6, s_X0_rest_8, s_X0_rest_9, s_X0_rest_12, s_X0_rest_15, s_X0_rest_16, s_X0_rest_17, s_X0_rest_20, s_X0_rest_23, s_X0_rest_24, s_X0_rest_27, s_X0_rest_28, s_X0_rest_29, s_X0_rest_30, s_X0_rest_31, s_X0_rest_32, s_X0_rest_33, s_X0_rest_34, s_X0_rest_37, s_X0_rest_40, s_X0_rest_41, if_true, if_false, and_true, true_and, and_false, false_and, true_or, or_true, or_false, false_or, eq_self, not_true_eq_false, not_false_eq_true, zv_int, zv_ref, zv_null, zv_none, hK_sI, hF_sI, hJ_sI, hN_sI, hZ_sI, hI_sI_same, hK_sJ, hF_sJ, hI_sJ, hN_sJ, hZ_sJ, hJ_sJ_same, hK_sF, hI_sF, hJ_sF, hN_sF, hZ_sF, Option.bind_some, Option.toList_some, Option.toList_none, List.cons_append, List.nil_append, zq_ref, zq_null, L.k8, c4]
  exact this
theorem rsm_val {f : Nat → Int32} {t : Nat → Nat} : ∀ (l : List Nat) (x : Int32) (X : Int), (∀ c ∈ l, f c = nI (t c) ∧ t c ≤ 16) → x.toInt = X → l.length ≤ 4 → -1000 ≤ X - 16 * l.length ∧ X ≤ 1000 → (rsm f x l).toInt = X - (l.map t).sum
  | [], x, X, _, e, _, _ => by
    show x.toInt = X - ((0 : Nat) : Int)
    omega
  | c :: l, x, X, h, e, hl, hb => by
    have h1 := h c List.mem_cons_self
    have e1 : (nI (t c)).toInt = (t c : Int) := nIt (by omega)
    rw [List.length_cons] at hl hb
    have e2 : (x - f c).toInt = X - (t c : Int) := by
      rw [h1.1, su32 (by rw [e, e1]; omega), e, e1]
    show (rsm f (x - f c) l).toInt = _
    rw [rsm_val l (x - f c) (X - (t c : Int)) (fun y hy => h y (List.mem_cons_of_mem _ hy)) e2 (by omega) (by omega), List.map_cons, List.sum_cons]
    omega
/-- a number's bit is not set -/
def ub (u : Int32) (v : Nat) : Prop := u &&& (1 <<< (nI v &&& 31)) = 0
theorem ub_bits : ∀ v, v < 17 → ∀ w, w < 17 → ((1 : Int32) <<< (nI w &&& 31)) &&& (1 <<< (nI v &&& 31)) = (if v = w then 1 <<< (nI v &&& 31) else 0) ∧ ¬ (1 : Int32) <<< (nI v &&& 31) = 0 := by decide +kernel
theorem or_and32 (x y z : Int32) : (x ||| y) &&& z = (x &&& z) ||| (y &&& z) := by
  apply Int32.toBitVec_inj.mp
  show (x.toBitVec ||| y.toBitVec) &&& z.toBitVec = (x.toBitVec &&& z.toBitVec) ||| (y.toBitVec &&& z.toBitVec)
  exact BitVec.and_or_distrib_right
theorem ub_or {u : Int32} {v w : Nat} (hv : v < 17) (hw : w < 17) : ub (u ||| (1 <<< (nI w &&& 31))) v ↔ ub u v ∧ v ≠ w := by
  unfold ub
  have hb := ub_bits v hv w hw
  rw [or_and32, Int32.or_eq_zero_iff, hb.1]
  by_cases c : v = w
  · rw [if_pos c]
    exact ⟨fun q => absurd q.2 hb.2, fun q => absurd c q.2⟩
  · rw [if_neg c]
    exact ⟨fun q => ⟨q.1, c⟩, fun q => ⟨q.1, rfl⟩⟩
/-- the bits set are those of the numbers held and laid -/
def UM (n : Nat) (hd t : Nat → Nat) (s : Nat) (u : Int32) : Prop := ∀ v, 1 ≤ v → v ≤ n * n → (ub u v ↔ (∀ p, p < n * n → hd p ≠ v) ∧ ∀ j, j < s → t (cs n j) ≠ v)
/-- what is laid so far is right -/
def PC (n : Nat) (hd t : Nat → Nat) (s : Nat) : Prop := (∀ j, j < s → (1 ≤ t (cs n j) ∧ t (cs n j) ≤ n * n) ∧ (hd (cs n j) ≠ 0 → t (cs n j) = hd (cs n j)) ∧ (hd (cs n j) = 0 → ∀ p, p < n * n → hd p ≠ t (cs n j)) ∧ (dsn n j ≠ [] → t (cs n j) + ((dsn n j).map t).sum = TT n)) ∧ ∀ i j, i < j → j < s → t (cs n i) ≠ t (cs n j)
/-- the keys of those sought that go on from what is laid -/
def EX (n : Nat) (rd pd : Bool) (hd t : Nat → Nat) (s κ : Nat) : Prop := ∃ f, Sol n rd pd hd f ∧ kyr f (n * n) = κ ∧ ∀ j, j < s → f (cs n j) = t (cs n j)
/-- the numbers held can be held -/
def HD (n : Nat) (hd : Nat → Nat) : Prop := (∀ p, p < n * n → hd p ≤ n * n) ∧ ∀ p q, p < n * n → q < n * n → p ≠ q → hd p ≠ 0 → hd p ≠ hd q
theorem fit_ok {n s : Nat} {hd t : Nat → Nat} {g : Nat → Int32} {u x : Int32} (hn : 1 ≤ n ∧ n ≤ 4) (hs : s < n * n) (H : HD n hd) (hg : ∀ p, p < n * n → g p = nI (hd p)) (fx : fit g (nI (n * n)) u (cs n s) x = true) : ∃ v, x = nI v ∧ 1 ≤ v ∧ v ≤ n * n ∧ (hd (cs n s) ≠ 0 → v = hd (cs n s)) ∧ (hd (cs n s) = 0 → ub u v) := by
  have nn : n * n ≤ 16 := Nat.mul_le_mul hn.2 hn.2
  have hc := (pz_cs n (by omega) hn.1 s hs).1
  have hH := H.1 _ hc
  unfold fit at fx
  rw [hg _ hc] at fx
  by_cases c : hd (cs n s) = 0
  · rw [c, if_pos (by rfl)] at fx
    unfold fre at fx
    rw [Bool.and_eq_true, Bool.and_eq_true, decide_eq_true_iff, decide_eq_true_iff, decide_eq_true_iff] at fx
    rcases rng1 (N := n * n) (by omega) x with q | ⟨v, v1, v2, e⟩
    · exact absurd q (fun q => q.elim fx.1 fx.2.1)
    · subst e
      exact ⟨v, rfl, v1, v2, fun q => absurd c q, fun _ => fx.2.2⟩
  · have c0 : ¬ nI (hd (cs n s)) = 0 := nI_ne0 (by omega) (by omega)
    rw [if_neg c0, decide_eq_true_iff] at fx
    exact ⟨hd (cs n s), fx.symm, by omega, hH, fun _ => rfl, fun q => absurd q c⟩
theorem fit_sol {n s : Nat} {rd pd : Bool} {hd t f : Nat → Nat} {g : Nat → Int32} {u : Int32} (hn : 1 ≤ n ∧ n ≤ 4) (hs : s < n * n) (hg : ∀ p, p < n * n → g p = nI (hd p)) (U : UM n hd t s u) (S : Sol n rd pd hd f) (ag_ : ∀ j, j < s → f (cs n j) = t (cs n j)) : fit g (nI (n * n)) u (cs n s) (nI (f (cs n s))) = true := by
  have nn : n * n ≤ 16 := Nat.mul_le_mul hn.2 hn.2
  have hc := (pz_cs n (by omega) hn.1 s hs).1
  have hv := S.1 _ hc
  unfold fit
  rw [hg _ hc]
  by_cases c : hd (cs n s) = 0
  · rw [c, if_pos (by rfl)]
    unfold fre
    have a1 : ¬ nI (f (cs n s)) < 1 := nI_nlt (a := f (cs n s)) (b := 1) hv.1 (by omega)
    have a2 : ¬ nI (n * n) < nI (f (cs n s)) := nI_nlt hv.2 (by omega)
    have a3 : ub u (f (cs n s)) := by
      refine (U _ hv.1 hv.2).mpr ⟨fun p hp q => ?_, fun j hj q => ?_⟩
      · have e := S.2.2.1 p hp (by omega)
        rw [q] at e
        by_cases cp : p = cs n s
        · subst cp
          omega
        · rcases Nat.lt_or_gt_of_ne cp with l | l
          · exact S.2.1 p _ l hc e
          · exact S.2.1 _ p l hp e.symm
      · rw [← ag_ j hj] at q
        have cj := (pz_cs n (by omega) hn.1 j (by omega)).1
        rcases Nat.lt_or_gt_of_ne (pz_inj n (by omega) hn.1 s hs j hj) with l | l
        · exact S.2.1 _ _ l hc q
        · exact S.2.1 _ _ l cj q.symm
    have a3' : u &&& (1 <<< (nI (f (cs n s)) &&& 31)) = 0 := a3
    simp only [a1, a2, a3', not_false_eq_true, decide_true, Bool.and_self]
  · have hq := S.2.2.1 _ hc c
    have hle : hd (cs n s) ≤ n * n := by rw [← hq]; exact hv.2
    have c0 : ¬ nI (hd (cs n s)) = 0 := nI_ne0 (by omega) (by omega)
    rw [if_neg c0, hq]
    exact decide_eq_true rfl
/-- one more number laid -/
def lay1 (t : Nat → Nat) (c v : Nat) : Nat → Nat := fun p => if p = c then v else t p
theorem lay1_old {n s j v : Nat} {t : Nat → Nat} (hn : 1 ≤ n ∧ n ≤ 4) (hs : s < n * n) (hj : j < s) : lay1 t (cs n s) v (cs n j) = t (cs n j) := if_neg (pz_inj n (by omega) hn.1 s hs j hj)
theorem PC_s {n s v : Nat} {hd t : Nat → Nat} {u : Int32} (hn : 1 ≤ n ∧ n ≤ 4) (hs : s < n * n) (H : HD n hd) (P : PC n hd t s) (U : UM n hd t s u) (v1 : 1 ≤ v) (v2 : v ≤ n * n) (vh : hd (cs n s) ≠ 0 → v = hd (cs n s)) (vu : hd (cs n s) = 0 → ub u v) (vd : dsn n s ≠ [] → v + ((dsn n s).map t).sum = TT n) : PC n hd (lay1 t (cs n s) v) (s + 1) := by
  have new : lay1 t (cs n s) v (cs n s) = v := if_pos rfl
  have dmap : ∀ j, j ≤ s → (dsn n j).map (lay1 t (cs n s) v) = (dsn n j).map t := fun j hj => by
    by_cases c : dsn n j = []
    · rw [c]; rfl
    · apply List.map_congr_left
      intro x hx
      obtain ⟨i, hi, ei⟩ := (pz_ds n (by omega) hn.1 j (by omega) c).2.2.2 x hx
      rw [← ei]
      exact lay1_old hn hs (by omega)
  have hc := (pz_cs n (by omega) hn.1 s hs).1
  refine ⟨fun j hj => ?_, fun i j hij hj => ?_⟩
  · by_cases c : j = s
    · subst c
      rw [new, dmap j (Nat.le_refl _)]
      exact ⟨⟨v1, v2⟩, vh, fun q => ((U v v1 v2).mp (vu q)).1, vd⟩
    · rw [lay1_old hn hs (by omega), dmap j (by omega)]
      exact P.1 j (by omega)
  · by_cases c : j = s
    · subst c
      rw [new, lay1_old hn hs hij]
      by_cases c0 : hd (cs n j) = 0
      · exact ((U v v1 v2).mp (vu c0)).2 i hij
      · rw [vh c0]
        have hi := P.1 i hij
        have ci := (pz_cs n (by omega) hn.1 i (by omega)).1
        by_cases c1 : hd (cs n i) = 0
        · intro q
          exact hi.2.2.1 c1 (cs n j) hc q.symm
        · rw [hi.2.1 c1]
          exact H.2 _ _ ci hc (pz_inj n (by omega) hn.1 j hs i hij) c1
    · rw [lay1_old hn hs (by omega), lay1_old hn hs (by omega)]
      exact P.2 i j hij (by omega)
theorem UM_s {n s v : Nat} {hd t : Nat → Nat} {u : Int32} (hn : 1 ≤ n ∧ n ≤ 4) (hs : s < n * n) (U : UM n hd t s u) (v2 : v ≤ n * n) : UM n hd (lay1 t (cs n s) v) (s + 1) (u ||| (1 <<< (nI v &&& 31))) := by
  have nn : n * n ≤ 16 := Nat.mul_le_mul hn.2 hn.2
  have new : lay1 t (cs n s) v (cs n s) = v := if_pos rfl
  intro w w1 w2
  rw [ub_or (by omega) (by omega), U w w1 w2]
  constructor
  · rintro ⟨⟨a, c⟩, ne⟩
    refine ⟨a, fun j hj => ?_⟩
    by_cases e : j = s
    · rw [e, new]; exact fun q => ne q.symm
    · rw [lay1_old hn hs (by omega)]
      exact c j (by omega)
  · rintro ⟨a, c⟩
    refine ⟨⟨a, fun j hj => ?_⟩, fun q => ?_⟩
    · have := c j (by omega)
      rw [lay1_old hn hs hj] at this
      exact this
    · have := c s (by omega)
      rw [new] at this
      exact this q.symm
end
