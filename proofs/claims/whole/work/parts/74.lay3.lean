/-! ===== the class finds all that are sought ===== -/
section
variable {E : mE} {d : Nat} {h h1 h2 : mH} {b : Nat}
def ST (E : mE) (b Z n : Nat) (ask : Int32) (rd pd : Bool) (hd t : Nat → Nat) (s : Nat) (u : Int32) (K : List Nat) (h : mH) : Prop := FC E b n ask hd h ∧ FK b Z n K h ∧ hF h (b + 8) 9 = .int u ∧ (∀ j, j < s → hI h (b + 10) (cs n j) = nI (t (cs n j))) ∧ sor K ∧ ∀ κ ∈ K, ∃ f, Sol n rd pd hd f ∧ kyr f (n * n) = κ
def EXv (n : Nat) (rd pd : Bool) (hd t : Nat → Nat) (s : Nat) (x : Int32) (κ : Nat) : Prop := ∃ f, Sol n rd pd hd f ∧ kyr f (n * n) = κ ∧ (∀ j, j < s → f (cs n j) = t (cs n j)) ∧ nI (f (cs n s)) = x
theorem FC_9 {n : Nat} {ask u : Int32} {hd : Nat → Nat} (C : FC E b n ask hd h) : FC E b n ask hd (sF h (b + 8) 9 (.int u)) := by
  obtain ⟨L, c1, c2, c3, c4, c5, c6, c7, c8⟩ := C
  have f : ∀ a j, ¬ (a = b + 8 ∧ j = 9) → hF (sF h (b + 8) 9 (.int u)) a j = hF h a j := fun a j q => by rw [hF_sF, if_neg q]
  refine ⟨L.sF 8 9 _ (by decide +kernel), c1, ?_, ?_, ?_, ?_, ?_, ?_, c8⟩
  · rw [f _ _ (by omega)]; exact c2
  · rw [f _ _ (by omega)]; exact c3
  · rw [f _ _ (by omega)]; exact c4
  · rw [f _ _ (by omega)]; exact c5
  · rw [f _ _ (by omega)]; exact c6
  · rw [f _ _ (by omega)]; exact c7
theorem FC_10 {n : Nat} {ask : Int32} {hd : Nat → Nat} {g : Nat → Int32} (C : FC E b n ask hd h) : FC E b n ask hd (sI h (b + 10) g) := by
  obtain ⟨L, c1, c2, c3, c4, c5, c6, c7, c8⟩ := C
  refine ⟨L.sI _ _, c1, c2, c3, c4, c5, c6, c7, fun p hp => ?_⟩
  rw [hI_sI_ne _ _ (by omega)]
  exact c8 p hp
theorem FK_9 {Z n : Nat} {K : List Nat} {u : Int32} (F : FK b Z n K h) : FK b Z n K (sF h (b + 8) 9 (.int u)) := by
  obtain ⟨g, ka, g8, f2, k1, hka, kN, eN, eZ, len, dat, f3, f4⟩ := F
  have f : ∀ j, j ≠ 9 → hF (sF h (b + 8) 9 (.int u)) (b + 8) j = hF h (b + 8) j := fun j q => by rw [hF_sF, if_neg (fun r => q r.2)]
  exact ⟨g, ka, g8, by rw [f 2 (by omega)]; exact f2, k1, hka, kN, eN, eZ, len, dat, by rw [f 3 (by omega)]; exact f3, by rw [f 4 (by omega)]; exact f4⟩
theorem FK_I {Z n a : Nat} {K : List Nat} {g : Nat → Int32} (F : FK b Z n K h) : FK b Z n K (sI h a g) := F
theorem frm_9 {u : Int32} : frm b h (sF h (b + 8) 9 (.int u)) := by
  refine ⟨fun _ _ _ _ => rfl, fun a j _ h8 _ => ?_, fun _ _ _ => rfl, fun _ _ => rfl⟩
  rw [hF_sF, if_neg (fun q => h8 q.1)]
theorem frm_10 {g : Nat → Int32} : frm b h (sI h (b + 10) g) := ⟨fun a _ h10 _ => hI_sI_ne h _ h10, fun _ _ _ _ _ => rfl, fun _ _ _ => rfl, fun _ _ => rfl⟩
theorem kk8 {n : Nat} {ask : Int32} {hd : Nat → Nat} (C : FC E b n ask hd h) : hK h (b + 8) = (10, 11) := C.1.k8
/-- what one number at a place gives -/
theorem cand {Z n s : Nat} {ask u x y : Int32} {rd pd : Bool} {hd t : Nat → Nat} {K : List Nat} {lo v6 : Option Value} (hn : 1 ≤ n ∧ n ≤ 4) (hs : s < n * n) (H : HD n hd)
    (IH : ∀ (t : Nat → Nat) (u : Int32) (K : List Nat) (h : mH), PC n hd t (s + 1) → UM n hd t (s + 1) u → ST E b Z n ask rd pd hd t (s + 1) u K h → (∀ κ ∈ K, ¬ EX n rd pd hd t (s + 1) κ) → ∃ h' K', cal E (d + 2) kX0_layFrom [.ref (b + 8), .int (nI (s + 1))] h = some (none, h') ∧ ST E b Z n ask rd pd hd t (s + 1) u K' h' ∧ frm b h h' ∧ ∀ κ, κ ∈ K' ↔ κ ∈ K ∨ EX n rd pd hd t (s + 1) κ)
    (P : PC n hd t s) (U : UM n hd t s u) (T : ST E b Z n ask rd pd hd t s u K h) (hxy : ¬ y < x) (hx : dsn n s ≠ [] → ∀ v, x = nI v → v ≤ 16 → v + ((dsn n s).map t).sum = TT n) (dis : ∀ κ ∈ K, ¬ EXv n rd pd hd t s x κ) :
    ∃ h' K' w6, zl E (d + 2) kX0_layFrom 57 [some (.ref (b + 8)), some (.int (nI s)), some (.int (nI (cs n s))), lo, some (.int y), some (.int x), v6] [] h = zl E (d + 2) kX0_layFrom 57 [some (.ref (b + 8)), some (.int (nI s)), some (.int (nI (cs n s))), lo, some (.int y), some (.int (x + 1)), w6] [] h' ∧ ST E b Z n ask rd pd hd t s u K' h' ∧ frm b h h' ∧ ∀ κ, κ ∈ K' ↔ κ ∈ K ∨ EXv n rd pd hd t s x κ := by
  obtain ⟨C, F, hu, tr_, sK, kS⟩ := T
  have nn : n * n ≤ 16 := Nat.mul_le_mul hn.2 hn.2
  have hc := (pz_cs n (by omega) hn.1 s hs).1
  have L := C.1
  have c3 := C.2.2.2.1
  have c8 := C.2.2.2.2.2.2.2.2
  have eF := c_X0_fits (E := E) (d := d) (c := cs n s) (x := x) L.k8 L.p8_1 L.k11 c3 hu (by omega)
  cases ef : fit (hI h (b + 11)) (nI (n * n)) u (cs n s) x with
  | false =>
    rw [ef] at eF
    refine ⟨h, K, v6, ?_, ⟨C, F, hu, tr_, sK, kS⟩, frm_refl, fun κ => ⟨Or.inl, fun q => q.elim id (fun q => ?_)⟩⟩
    · rw [s_X0_layFrom_57]
      simp (decide := true) only [s_X0_layFrom_0, s_X0_layFrom_1, s_X0_layFrom_2, s_X0_layFrom_5, s_X0_layFrom_8, s_X0_layFrom_9, s_X0_layFrom_12, s_X0_layFrom_13, s_X0_layFrom_14, s_X0_layFrom_17, s_X0_layFrom_18, s_X0_layFrom_19, s_X0_layFrom_20, s_X0_layFrom_21, s_X0_layFrom_22, s_X0_layFrom_23, s_X0_layFrom_24, s_X0_layFrom_25, s_X0_layFrom_28, s_X0_layFrom_30, s_X0_layFrom_31, s_X0_layFrom_34, s_X0_layFrom_35, s_X0_layFrom_36, s_X0_layFrom_37, s_X0_layFrom_38, s_X0_layFrom_39, s_X0_layFrom_40, s_X0_layFrom_43, s_X0_layFrom_44, s_X0_layFrom_45, s_X0_layFrom_46, s_X0_layFrom_47, s_X0_layFrom_50, s_X0_layFrom_51, s_X0_layFrom_52, s_X0_layFrom_54, s_X0_layFrom_55, s_X0_layFrom_59, s_X0_layFrom_61, s_X0_layFrom_64, s_X0_layFrom_65, s_X0_layFrom_66, s_X0_layFrom_68, s_X0_layFrom_71, s_X0_layFrom_74, s_X0_layFrom_75, s_X0_layFrom_78, s_X0_layFrom_80, s_X0_layFrom_81, s_X0_layFrom_82, s_X0_layFrom_85, s_X0_layFrom_86, s_X0_layFrom_88, s_X0_layFrom_89, s_X0_layFrom_90, s_X0_layFrom_93, s_X0_layFrom_94, s_X0_layFrom_97, s_X0_layFrom_100, s_X0_layFrom_101, s_X0_layFrom_103, s_X0_layFrom_104, s_X0_layFrom_105, s_X0_layFrom_106, s_X0_layFrom_107, s_X0_layFrom_108, s_X0_layFrom_111, s_X0_layFrom_112, s_X0_layFrom_114, s_X0_layFrom_117, s_X0_layFrom_120, s_X0_layFrom_123, if_true, if_false, and_true, true_and, and_false, false_and, true_or, or_true, or_false, false_or, eq_self, not_true_eq_false, not_false_eq_true, zv_int, zv_ref, zv_null, zv_none, hK_sI, hF_sI, hJ_sI, hN_sI, hZ_sI, hI_sI_same, hK_sJ, hF_sJ, hI_sJ, hN_sJ, hZ_sJ, hJ_sJ_same, hK_sF, hI_sF, hJ_sF, hN_sF, hZ_sF, Option.bind_some, Option.toList_some, Option.toList_none, List.cons_append, List.nil_append, zq_ref, zq_null, L.k8, hxy, eF]
    · exfalso
      obtain ⟨f, S, _, ag_, ev⟩ := q
      have := fit_sol hn hs c8 U S ag_
      rw [ev, ef] at this
      cases this
  | true =>
    rw [ef] at eF
    obtain ⟨v, ex, v1, v2, vh, vu⟩ := fit_ok (t := t) hn hs H c8 ef
    have P' := PC_s hn hs H P U v1 v2 vh vu (fun q => hx q v ex (by omega))
    have U' := UM_s hn hs U v2
    have u31 : (1 : Int32) <<< (x &&& 31) = 1 <<< (nI v &&& 31) := by rw [ex]
    obtain ⟨h1, eh1⟩ : ∃ h1, h1 = sF h (b + 8) 9 (.int (u ||| (1 <<< (x &&& 31)))) := ⟨_, rfl⟩
    obtain ⟨h2, eh2⟩ : ∃ h2, h2 = sI h1 (b + 10) (upd (hI h (b + 10)) (cs n s) x) := ⟨_, rfl⟩
    have C1 : FC E b n ask hd h1 := by rw [eh1]; exact FC_9 C
    have C2 : FC E b n ask hd h2 := by rw [eh2]; exact FC_10 C1
    have F2 : FK b Z n K h2 := by rw [eh2, eh1]; exact FK_I (FK_9 F)
    have fr2 : frm b h h2 := by rw [eh2, eh1]; exact frm_trans frm_9 frm_10
    have T2 : ST E b Z n ask rd pd hd (lay1 t (cs n s) v) (s + 1) (u ||| (1 <<< (nI v &&& 31))) K h2 := by
      refine ⟨C2, F2, ?_, fun j hj => ?_, sK, kS⟩
      · rw [eh2, hF_sI, eh1, hF_sF, if_pos ⟨rfl, rfl⟩, u31]
      · rw [eh2, hI_sI_same, upd_at]
        by_cases e : j = s
        · rw [e, if_pos rfl, ex]
          unfold lay1
          rw [if_pos rfl]
        · rw [if_neg (pz_inj n (by omega) hn.1 s hs j (by omega)), lay1_old hn hs (by omega)]
          exact tr_ j (by omega)
    have exv : ∀ κ, EX n rd pd hd (lay1 t (cs n s) v) (s + 1) κ ↔ EXv n rd pd hd t s x κ := fun κ => by
      constructor
      · rintro ⟨f, S, ek, ag_⟩
        refine ⟨f, S, ek, fun j hj => ?_, ?_⟩
        · rw [ag_ j (by omega), lay1_old hn hs hj]
        · rw [ag_ s (by omega), ex]
          unfold lay1
          rw [if_pos rfl]
      · rintro ⟨f, S, ek, ag_, ev⟩
        refine ⟨f, S, ek, fun j hj => ?_⟩
        by_cases e : j = s
        · rw [e]
          unfold lay1
          rw [if_pos rfl]
          rw [ex] at ev
          have := S.1 _ hc
          exact (nI_eq (by omega) (by omega)).mp ev
        · rw [lay1_old hn hs (by omega)]
          exact ag_ j (by omega)
    obtain ⟨h3, K3, eC, T3, fr3, mem3⟩ := IH _ _ K h2 P' U' T2 (fun κ hκ q => dis κ hκ ((exv κ).mp q))
    obtain ⟨C3, F3, hu3, tr3, sK3, kS3⟩ := T3
    refine ⟨sF h3 (b + 8) 9 (.int u), K3, some (.int u), ?_, ⟨FC_9 C3, FK_9 F3, by rw [hF_sF, if_pos ⟨rfl, rfl⟩], fun j hj => ?_, sK3, kS3⟩, frm_trans fr2 (frm_trans fr3 frm_9), fun κ => ?_⟩
    · have n1 := nI_1 s
      have z0 : zR (nI (cs n s)) 144 := zR_to (by decide) (by omega)
      have z1 : (nI (cs n s)).toNatClampNeg = cs n s := nI_clamp (by omega)
      have L1 := C1.1
      have L3 := C3.1
      have i1 : hI h1 (b + 10) = hI h (b + 10) := by rw [eh1, hI_sF]
      rw [s_X0_layFrom_57]
      simp (decide := true) only [s_X0_layFrom_0, s_X0_layFrom_1, s_X0_layFrom_2, s_X0_layFrom_5, s_X0_layFrom_8, s_X0_layFrom_9, s_X0_layFrom_12, s_X0_layFrom_13, s_X0_layFrom_14, s_X0_layFrom_17, s_X0_layFrom_18, s_X0_layFrom_19, s_X0_layFrom_20, s_X0_layFrom_21, s_X0_layFrom_22, s_X0_layFrom_23, s_X0_layFrom_24, s_X0_layFrom_25, s_X0_layFrom_28, s_X0_layFrom_30, s_X0_layFrom_31, s_X0_layFrom_34, s_X0_layFrom_35, s_X0_layFrom_36, s_X0_layFrom_37, s_X0_layFrom_38, s_X0_layFrom_39, s_X0_layFrom_40, s_X0_layFrom_43, s_X0_layFrom_44, s_X0_layFrom_45, s_X0_layFrom_46, s_X0_layFrom_47, s_X0_layFrom_50, s_X0_layFrom_51, s_X0_layFrom_52, s_X0_layFrom_54, s_X0_layFrom_55, s_X0_layFrom_59, s_X0_layFrom_61, s_X0_layFrom_64, s_X0_layFrom_65, s_X0_layFrom_66, s_X0_layFrom_68, s_X0_layFrom_71, s_X0_layFrom_74, s_X0_layFrom_75, s_X0_layFrom_78, s_X0_layFrom_80, s_X0_layFrom_81, s_X0_layFrom_82, s_X0_layFrom_85, s_X0_layFrom_86, s_X0_layFrom_88, s_X0_layFrom_89, s_X0_layFrom_90, s_X0_layFrom_93, s_X0_layFrom_94, s_X0_layFrom_97, s_X0_layFrom_100, s_X0_layFrom_101, s_X0_layFrom_103, s_X0_layFrom_104, s_X0_layFrom_105, s_X0_layFrom_106, s_X0_layFrom_107, s_X0_layFrom_108, s_X0_layFrom_111, s_X0_layFrom_112, s_X0_layFrom_114, s_X0_layFrom_117, s_X0_layFrom_120, s_X0_layFrom_123, if_true, if_false, and_true, true_and, and_false, false_and, true_or, or_true, or_false, false_or, eq_self, not_true_eq_false, not_false_eq_true, zv_int, zv_ref, zv_null, zv_none, hK_sI, hF_sI, hJ_sI, hN_sI, hZ_sI, hI_sI_same, hK_sJ, hF_sJ, hI_sJ, hN_sJ, hZ_sJ, hJ_sJ_same, hK_sF, hI_sF, hJ_sF, hN_sF, hZ_sF, Option.bind_some, Option.toList_some, Option.toList_none, List.cons_append, List.nil_append, zq_ref, zq_null, L.k8, hxy, eF, hu, zfit]
      rw [← eh1]
      simp (decide := true) only [s_X0_layFrom_0, s_X0_layFrom_1, s_X0_layFrom_2, s_X0_layFrom_5, s_X0_layFrom_8, s_X0_layFrom_9, s_X0_layFrom_12, s_X0_layFrom_13, s_X0_layFrom_14, s_X0_layFrom_17, s_X0_layFrom_18, s_X0_layFrom_19, s_X0_layFrom_20, s_X0_layFrom_21, s_X0_layFrom_22, s_X0_layFrom_23, s_X0_layFrom_24, s_X0_layFrom_25, s_X0_layFrom_28, s_X0_layFrom_30, s_X0_layFrom_31, s_X0_layFrom_34, s_X0_layFrom_35, s_X0_layFrom_36, s_X0_layFrom_37, s_X0_layFrom_38, s_X0_layFrom_39, s_X0_layFrom_40, s_X0_layFrom_43, s_X0_layFrom_44, s_X0_layFrom_45, s_X0_layFrom_46, s_X0_layFrom_47, s_X0_layFrom_50, s_X0_layFrom_51, s_X0_layFrom_52, s_X0_layFrom_54, s_X0_layFrom_55, s_X0_layFrom_59, s_X0_layFrom_61, s_X0_layFrom_64, s_X0_layFrom_65, s_X0_layFrom_66, s_X0_layFrom_68, s_X0_layFrom_71, s_X0_layFrom_74, s_X0_layFrom_75, s_X0_layFrom_78, s_X0_layFrom_80, s_X0_layFrom_81, s_X0_layFrom_82, s_X0_layFrom_85, s_X0_layFrom_86, s_X0_layFrom_88, s_X0_layFrom_89, s_X0_layFrom_90, s_X0_layFrom_93, s_X0_layFrom_94, s_X0_layFrom_97, s_X0_layFrom_100, s_X0_layFrom_101, s_X0_layFrom_103, s_X0_layFrom_104, s_X0_layFrom_105, s_X0_layFrom_106, s_X0_layFrom_107, s_X0_layFrom_108, s_X0_layFrom_111, s_X0_layFrom_112, s_X0_layFrom_114, s_X0_layFrom_117, s_X0_layFrom_120, s_X0_layFrom_123, if_true, if_false, and_true, true_and, and_false, false_and, true_or, or_true, or_false, false_or, eq_self, not_true_eq_false, not_false_eq_true, zv_int, zv_ref, zv_null, zv_none, hK_sI, hF_sI, hJ_sI, hN_sI, hZ_sI, hI_sI_same, hK_sJ, hF_sJ, hI_sJ, hN_sJ, hZ_sJ, hJ_sJ_same, hK_sF, hI_sF, hJ_sF, hN_sF, hZ_sF, Option.bind_some, Option.toList_some, Option.toList_none, List.cons_append, List.nil_append, zq_ref, zq_null, L1.k8, L1.p8_0, L1.k9, L1.p9_0, L1.k10, z0, z1, i1, n1]
      rw [← eh2, eC]
      simp (decide := true) only [s_X0_layFrom_0, s_X0_layFrom_1, s_X0_layFrom_2, s_X0_layFrom_5, s_X0_layFrom_8, s_X0_layFrom_9, s_X0_layFrom_12, s_X0_layFrom_13, s_X0_layFrom_14, s_X0_layFrom_17, s_X0_layFrom_18, s_X0_layFrom_19, s_X0_layFrom_20, s_X0_layFrom_21, s_X0_layFrom_22, s_X0_layFrom_23, s_X0_layFrom_24, s_X0_layFrom_25, s_X0_layFrom_28, s_X0_layFrom_30, s_X0_layFrom_31, s_X0_layFrom_34, s_X0_layFrom_35, s_X0_layFrom_36, s_X0_layFrom_37, s_X0_layFrom_38, s_X0_layFrom_39, s_X0_layFrom_40, s_X0_layFrom_43, s_X0_layFrom_44, s_X0_layFrom_45, s_X0_layFrom_46, s_X0_layFrom_47, s_X0_layFrom_50, s_X0_layFrom_51, s_X0_layFrom_52, s_X0_layFrom_54, s_X0_layFrom_55, s_X0_layFrom_59, s_X0_layFrom_61, s_X0_layFrom_64, s_X0_layFrom_65, s_X0_layFrom_66, s_X0_layFrom_68, s_X0_layFrom_71, s_X0_layFrom_74, s_X0_layFrom_75, s_X0_layFrom_78, s_X0_layFrom_80, s_X0_layFrom_81, s_X0_layFrom_82, s_X0_layFrom_85, s_X0_layFrom_86, s_X0_layFrom_88, s_X0_layFrom_89, s_X0_layFrom_90, s_X0_layFrom_93, s_X0_layFrom_94, s_X0_layFrom_97, s_X0_layFrom_100, s_X0_layFrom_101, s_X0_layFrom_103, s_X0_layFrom_104, s_X0_layFrom_105, s_X0_layFrom_106, s_X0_layFrom_107, s_X0_layFrom_108, s_X0_layFrom_111, s_X0_layFrom_112, s_X0_layFrom_114, s_X0_layFrom_117, s_X0_layFrom_120, s_X0_layFrom_123, if_true, if_false, and_true, true_and, and_false, false_and, true_or, or_true, or_false, false_or, eq_self, not_true_eq_false, not_false_eq_true, zv_int, zv_ref, zv_null, zv_none, hK_sI, hF_sI, hJ_sI, hN_sI, hZ_sI, hI_sI_same, hK_sJ, hF_sJ, hI_sJ, hN_sJ, hZ_sJ, hJ_sJ_same, hK_sF, hI_sF, hJ_sF, hN_sF, hZ_sF, Option.bind_some, Option.toList_some, Option.toList_none, List.cons_append, List.nil_append, zq_ref, zq_null, L3.k8, zfit]
    · rw [hI_sF, tr3 j (by omega), lay1_old hn hs hj]
    · rw [mem3, exv]
/-- a whole row laid: kept if it is sought -/
theorem lay_leaf {Z n : Nat} {ask u : Int32} {rd pd : Bool} {hd t : Nat → Nat} {K : List Nat} (hb : ∀ k, k < 7 → E.1 k < b) (hn : 1 ≤ n ∧ n ≤ 4) (ha4 : ask &&& 4 = 0 ↔ rd = false) (ha8 : ask &&& 8 = 0 ↔ pd = false) (P : PC n hd t (n * n)) (T : ST E b Z n ask rd pd hd t (n * n) u K h) (dis : ∀ κ ∈ K, ¬ EX n rd pd hd t (n * n) κ) : ∃ h' K', cal E (d + 5) kX0_layFrom [.ref (b + 8), .int (nI (n * n))] h = some (none, h') ∧ ST E b Z n ask rd pd hd t (n * n) u K' h' ∧ frm b h h' ∧ ∀ κ, κ ∈ K' ↔ κ ∈ K ∨ EX n rd pd hd t (n * n) κ := by
  obtain ⟨C, F, hu, tr_, sK, kS⟩ := T
  have nn : n * n ≤ 16 := Nat.mul_le_mul hn.2 hn.2
  have L := C.1
  have c3 := C.2.2.2.1
  have s1 : ∀ p, p < n * n → 1 ≤ t p ∧ t p ≤ n * n := fun p hp => by
    obtain ⟨j, hj, ej⟩ := pz_cov n (by omega) hn.1 p hp
    rw [← ej]
    exact (P.1 j hj).1
  have s2 : ∀ p q, p < q → q < n * n → t p ≠ t q := fun p q hpq hq => by
    obtain ⟨i, hi, ei⟩ := pz_cov n (by omega) hn.1 p (by omega)
    obtain ⟨j, hj, ej⟩ := pz_cov n (by omega) hn.1 q hq
    rw [← ei, ← ej]
    have hij : i ≠ j := fun e => by rw [e, ej] at ei; omega
    rcases Nat.lt_or_gt_of_ne hij with l | l
    · exact P.2 i j l hj
    · exact fun e => P.2 j i l hi e.symm
  have s3 : ∀ p, p < n * n → hd p ≠ 0 → t p = hd p := fun p hp => by
    obtain ⟨j, hj, ej⟩ := pz_cov n (by omega) hn.1 p hp
    rw [← ej]
    exact (P.1 j hj).2.1
  have s4 : ls t n 0 n = TT n := by
    have hc : n = 1 ∨ n = 2 ∨ n = 3 ∨ n = 4 := by omega
    rcases hc with rfl | rfl | rfl | rfl
    · have := s1 0 (by decide)
      change 0 + t 0 = 1
      omega
    · have := (P.1 1 (by decide)).2.2.2 (by decide)
      change t 1 + (t 0 + 0) = 5 at this
      change 0 + t 0 + t 1 = 5
      omega
    · have := (P.1 2 (by decide)).2.2.2 (by decide)
      change t 2 + (t 0 + (t 1 + 0)) = 15 at this
      change 0 + t 0 + t 1 + t 2 = 15
      omega
    · have := (P.1 3 (by decide)).2.2.2 (by decide)
      change t 3 + (t 0 + (t 1 + (t 2 + 0))) = 34 at this
      change 0 + t 0 + t 1 + t 2 + t 3 = 34
      omega
  have row : ∀ p, p < n * n → hI h (b + 10) p = nI (t p) := fun p hp => by
    obtain ⟨j, hj, ej⟩ := pz_cov n (by omega) hn.1 p hp
    rw [← ej]
    exact tr_ j hj
  have v : val16 t (n * n) := fun p hp => by have := s1 p hp; omega
  have chk := chk_sol (rd := rd) (pd := pd) (hd := hd) hn row s1 s2 s3 s4
  have q1 : ¬ nI (n * n) < nI (n * n) := i32_irr _
  have agT : ∀ f : Nat → Nat, (∀ j, j < n * n → f (cs n j) = t (cs n j)) → ∀ p, p < n * n → f p = t p := fun f e p hp => by
    obtain ⟨j, hj, ej⟩ := pz_cov n (by omega) hn.1 p hp
    rw [← ej]
    exact e j hj
  by_cases S : Sol n rd pd hd t
  · obtain ⟨o1, o2⟩ := chk.mp S
    have exk : ∀ κ, EX n rd pd hd t (n * n) κ ↔ κ = kyr t (n * n) := fun κ => by
      constructor
      · rintro ⟨f, _, ek, ag_⟩
        rw [← ek]
        exact kyr_cg (agT f ag_)
      · intro e
        exact ⟨t, S, e.symm, fun _ _ => rfl⟩
    have nK : kyr t (n * n) ∉ K := fun q => dis _ q ((exk _).mpr rfl)
    have h72 : K.length < 7200 := by
      have := sol_few (rd := rd) (pd := pd) (hd := hd) hn (kyr t (n * n) :: K) (List.nodup_cons.mpr ⟨nK, sor_nodup sK⟩) (fun κ hκ => by
        rcases List.mem_cons.mp hκ with e | e
        · exact ⟨t, S, e.symm⟩
        · exact kS κ e)
      rw [List.length_cons] at this
      omega
    have vK : ∀ κ ∈ K, κ < 2 ^ 64 := fun κ hκ => by
      obtain ⟨f, G, e⟩ := kS κ hκ
      rw [← e]
      exact Nat.lt_of_lt_of_le (kyr_lt (Sol_val hn.2 G)) (pow16 hn.2)
    obtain ⟨h', eK, fr, i, il, F', sI_⟩ := c_keep1 (E := E) (d := d) hb hn C F ha4 ha8 row v h72 sK nK vK o1 o2
    refine ⟨h', ins_ K i (kyr t (n * n)), ?_, ⟨FC_frmK hb C fr, F', ?_, fun j hj => ?_, sI_, fun κ hκ => ?_⟩, frm_of fr, fun κ => ?_⟩
    · simp (decide := true) only [e_X0_layFrom, s_X0_layFrom_0, s_X0_layFrom_1, s_X0_layFrom_2, s_X0_layFrom_5, s_X0_layFrom_8, s_X0_layFrom_9, s_X0_layFrom_12, s_X0_layFrom_13, s_X0_layFrom_14, s_X0_layFrom_17, s_X0_layFrom_18, s_X0_layFrom_19, s_X0_layFrom_20, s_X0_layFrom_21, s_X0_layFrom_22, s_X0_layFrom_23, s_X0_layFrom_24, s_X0_layFrom_25, s_X0_layFrom_28, s_X0_layFrom_30, s_X0_layFrom_31, s_X0_layFrom_34, s_X0_layFrom_35, s_X0_layFrom_36, s_X0_layFrom_37, s_X0_layFrom_38, s_X0_layFrom_39, s_X0_layFrom_40, s_X0_layFrom_43, s_X0_layFrom_44, s_X0_layFrom_45, s_X0_layFrom_46, s_X0_layFrom_47, s_X0_layFrom_50, s_X0_layFrom_51, s_X0_layFrom_52, s_X0_layFrom_54, s_X0_layFrom_55, s_X0_layFrom_59, s_X0_layFrom_61, s_X0_layFrom_64, s_X0_layFrom_65, s_X0_layFrom_66, s_X0_layFrom_68, s_X0_layFrom_71, s_X0_layFrom_74, s_X0_layFrom_75, s_X0_layFrom_78, s_X0_layFrom_80, s_X0_layFrom_81, s_X0_layFrom_82, s_X0_layFrom_85, s_X0_layFrom_86, s_X0_layFrom_88, s_X0_layFrom_89, s_X0_layFrom_90, s_X0_layFrom_93, s_X0_layFrom_94, s_X0_layFrom_97, s_X0_layFrom_100, s_X0_layFrom_101, s_X0_layFrom_103, s_X0_layFrom_104, s_X0_layFrom_105, s_X0_layFrom_106, s_X0_layFrom_107, s_X0_layFrom_108, s_X0_layFrom_111, s_X0_layFrom_112, s_X0_layFrom_114, s_X0_layFrom_117, s_X0_layFrom_120, s_X0_layFrom_123, if_true, if_false, and_true, true_and, and_false, false_and, true_or, or_true, or_false, false_or, eq_self, not_true_eq_false, not_false_eq_true, zv_int, zv_ref, zv_null, zv_none, hK_sI, hF_sI, hJ_sI, hN_sI, hZ_sI, hI_sI_same, hK_sJ, hF_sJ, hI_sJ, hN_sJ, hZ_sJ, hJ_sJ_same, hK_sF, hI_sF, hJ_sF, hN_sF, hZ_sF, Option.bind_some, Option.toList_some, Option.toList_none, List.cons_append, List.nil_append, zq_ref, zq_null, L.k8, c3, q1, eK]
    · rw [fr.2.1 _ _ (by omega) (by omega)]
      exact hu
    · rw [fr.1 _ (by omega)]
      exact tr_ j hj
    · rcases ins_mem.mp hκ with e | e
      · exact ⟨t, S, e.symm⟩
      · exact kS κ e
    · rw [ins_mem, exk]
      exact Or.comm
  · have eK := c_keep0 (E := E) (d := d) hn C ha4 ha8 (fun q => S (chk.mpr q))
    refine ⟨h, K, ?_, ⟨C, F, hu, tr_, sK, kS⟩, frm_refl, fun κ => ⟨Or.inl, fun q => q.elim id (fun q => ?_)⟩⟩
    · simp (decide := true) only [e_X0_layFrom, s_X0_layFrom_0, s_X0_layFrom_1, s_X0_layFrom_2, s_X0_layFrom_5, s_X0_layFrom_8, s_X0_layFrom_9, s_X0_layFrom_12, s_X0_layFrom_13, s_X0_layFrom_14, s_X0_layFrom_17, s_X0_layFrom_18, s_X0_layFrom_19, s_X0_layFrom_20, s_X0_layFrom_21, s_X0_layFrom_22, s_X0_layFrom_23, s_X0_layFrom_24, s_X0_layFrom_25, s_X0_layFrom_28, s_X0_layFrom_30, s_X0_layFrom_31, s_X0_layFrom_34, s_X0_layFrom_35, s_X0_layFrom_36, s_X0_layFrom_37, s_X0_layFrom_38, s_X0_layFrom_39, s_X0_layFrom_40, s_X0_layFrom_43, s_X0_layFrom_44, s_X0_layFrom_45, s_X0_layFrom_46, s_X0_layFrom_47, s_X0_layFrom_50, s_X0_layFrom_51, s_X0_layFrom_52, s_X0_layFrom_54, s_X0_layFrom_55, s_X0_layFrom_59, s_X0_layFrom_61, s_X0_layFrom_64, s_X0_layFrom_65, s_X0_layFrom_66, s_X0_layFrom_68, s_X0_layFrom_71, s_X0_layFrom_74, s_X0_layFrom_75, s_X0_layFrom_78, s_X0_layFrom_80, s_X0_layFrom_81, s_X0_layFrom_82, s_X0_layFrom_85, s_X0_layFrom_86, s_X0_layFrom_88, s_X0_layFrom_89, s_X0_layFrom_90, s_X0_layFrom_93, s_X0_layFrom_94, s_X0_layFrom_97, s_X0_layFrom_100, s_X0_layFrom_101, s_X0_layFrom_103, s_X0_layFrom_104, s_X0_layFrom_105, s_X0_layFrom_106, s_X0_layFrom_107, s_X0_layFrom_108, s_X0_layFrom_111, s_X0_layFrom_112, s_X0_layFrom_114, s_X0_layFrom_117, s_X0_layFrom_120, s_X0_layFrom_123, if_true, if_false, and_true, true_and, and_false, false_and, true_or, or_true, or_false, false_or, eq_self, not_true_eq_false, not_false_eq_true, zv_int, zv_ref, zv_null, zv_none, hK_sI, hF_sI, hJ_sI, hN_sI, hZ_sI, hI_sI_same, hK_sJ, hF_sJ, hI_sJ, hN_sJ, hZ_sJ, hJ_sJ_same, hK_sF, hI_sF, hJ_sF, hN_sF, hZ_sF, Option.bind_some, Option.toList_some, Option.toList_none, List.cons_append, List.nil_append, zq_ref, zq_null, L.k8, c3, q1, eK]
    · exfalso
      obtain ⟨f, G, _, ag_⟩ := q
      exact S (Sol_cg G (agT f ag_))
end
