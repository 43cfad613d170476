/-! ===== steps that read or write the heap ===== -/
section
variable {p : Program} {l : Launch} {e : Env} {R : Room} {s : State} {m : MethodId} {args : Array Value} {below : List Frame} {meth : Method} {c : Code} {D : va_G} {cs : Nat → ClassId} {b : Nat} {E : mE} {M d : Nat} {pc pc' : Nat} {L L' : mL} {S S' : List Value} {h h' : mH} {f' : mF}
theorem zt1 {n x : Nat} (q : x = n) (k : n ≠ 0) : x ≠ 0 := by rw [q]; exact k
theorem z_iald (hX : zC p R s m args meth c D cs b E M d) (hdg : decode (zcod M) pc = .ok (.iaload, 1)) (hs : i_iald E (pc + 1) L S h = .inl f') : zOK p l e R s m args below meth c D cs b (pc, L, S, h) f' := by
  unfold i_iald at hs
  split at hs
  · next i a S =>
    split at hs
    · next n f hf =>
      cases hz : zin_ i n with
      | false => rw [hz] at hs; cases hs
      | true =>
        rw [hz] at hs
        cases hs
        have hG := hX.2.2.2.2.2.2.1
        unfold zir at hf
        split at hf
        · next hk =>
          cases hf
          exact zOK.rd rfl fun Q H locs cells slots ls hR _ hL kk => va_iald hX.1 hX.2.1 hG.1 (hR.one (zt1 hk (by decide))) 0 0 (by rw [zcE_1 hk]; rfl) rfl (zin_spec hz) hdg (kk ls hL)
        · split at hf
          · exact zOK.rd rfl fun Q H locs cells slots ls hR hS hL kk => va_ti hX.1 hX.2.1 (hG.2.2.2.2.2.2 a n f hf) hS (zin_spec hz) rfl hdg (kk ls hL)
          · cases hf
    · cases hs
  · cases hs
theorem z_lald (hX : zC p R s m args meth c D cs b E M d) (hdg : decode (zcod M) pc = .ok (.laload, 1)) (hs : i_lald (pc + 1) L S h = .inl f') : zOK p l e R s m args below meth c D cs b (pc, L, S, h) f' := by
  unfold i_lald at hs
  split at hs
  · next i a S =>
    split at hs
    · next hk =>
      cases hz : zin_ i (hK h a).2 with
      | false => rw [hz] at hs; cases hs
      | true =>
        rw [hz] at hs
        cases hs
        exact zOK.rd rfl fun Q H locs cells slots ls hR _ hL kk => va_lald hX.1 hX.2.1 hX.2.2.2.2.2.2.1.1 (hR.one (zt1 hk (by decide))) 0 1 (by rw [zcE_2 hk]; rfl) rfl (zin_spec hz) hdg (kk ls hL)
    · cases hs
  · cases hs
theorem z_zald (hX : zC p R s m args meth c D cs b E M d) (hdg : decode (zcod M) pc = .ok (.baload, 1)) (hs : i_zald (pc + 1) L S h = .inl f') : zOK p l e R s m args below meth c D cs b (pc, L, S, h) f' := by
  unfold i_zald at hs
  split at hs
  · next i a S =>
    split at hs
    · next hk =>
      cases hz : zin_ i (hK h a).2 with
      | false => rw [hz] at hs; cases hs
      | true =>
        rw [hz] at hs
        cases hs
        exact zOK.rd rfl fun Q H locs cells slots ls hR _ hL kk => va_zald hX.1 hX.2.1 hX.2.2.2.2.2.2.1.1 (hR.one (zt1 hk (by decide))) 0 2 (by rw [zcE_3 hk]; rfl) rfl (zin_spec hz) hdg (kk ls hL)
    · cases hs
  · cases hs
theorem z_aald (hX : zC p R s m args meth c D cs b E M d) (hdg : decode (zcod M) pc = .ok (.aaload, 1)) (hs : i_aald (pc + 1) L S h = .inl f') : zOK p l e R s m args below meth c D cs b (pc, L, S, h) f' := by
  unfold i_aald at hs
  split at hs
  · next i a S =>
    split at hs
    · next hk =>
      cases hz : zin_ i (hK h a).2 with
      | false => rw [hz] at hs; cases hs
      | true =>
        rw [hz] at hs
        cases hs
        rcases hk with hk | hk
        · exact zOK.rd rfl fun Q H locs cells slots ls hR _ hL kk => va_aldq (f := fun i => zrf (hF h a i)) hX.1 hX.2.1 hX.2.2.2.2.2.2.1.1 (hR.one (zt1 hk (by decide))) 0 3 (by rw [zcE_4 hk]; rfl) rfl (zin_spec hz) hdg (kk ls hL)
        · exact zOK.rd rfl fun Q H locs cells slots ls hR _ hL kk => va_aldq (f := fun i => zrf (hF h a i)) hX.1 hX.2.1 hX.2.2.2.2.2.2.1.1 (hR.one (zt1 hk (by decide))) 0 4 (by rw [zcE_5 hk]; rfl) rfl (zin_spec hz) hdg (kk ls hL)
    · cases hs
  · cases hs
theorem z_alen (hX : zC p R s m args meth c D cs b E M d) (hdg : decode (zcod M) pc = .ok (.arraylength, 1)) (hs : i_alen E (pc + 1) L S h = .inl f') : zOK p l e R s m args below meth c D cs b (pc, L, S, h) f' := by
  unfold i_alen at hs
  split at hs
  · next a S =>
    split at hs
    · next n hf =>
      cases hs
      have hG := hX.2.2.2.2.2.2.1
      unfold zal at hf
      split at hf
      · next hk =>
        cases hf
        rcases hk with hk | hk | hk | hk | hk
        · exact zOK.rd rfl fun Q H locs cells slots ls hR _ hL kk => va_alen hX.1 hX.2.1 hG.1 (hR.one (zt1 hk (by decide))) 0 0 (by rw [zcE_1 hk]; rfl) rfl rfl hdg (kk ls hL)
        · exact zOK.rd rfl fun Q H locs cells slots ls hR _ hL kk => va_alen hX.1 hX.2.1 hG.1 (hR.one (zt1 hk (by decide))) 0 1 (by rw [zcE_2 hk]; rfl) rfl rfl hdg (kk ls hL)
        · exact zOK.rd rfl fun Q H locs cells slots ls hR _ hL kk => va_alen hX.1 hX.2.1 hG.1 (hR.one (zt1 hk (by decide))) 0 2 (by rw [zcE_3 hk]; rfl) rfl rfl hdg (kk ls hL)
        · exact zOK.rd rfl fun Q H locs cells slots ls hR _ hL kk => va_alen hX.1 hX.2.1 hG.1 (hR.one (zt1 hk (by decide))) 0 3 (by rw [zcE_4 hk]; rfl) rfl rfl hdg (kk ls hL)
        · exact zOK.rd rfl fun Q H locs cells slots ls hR _ hL kk => va_alen hX.1 hX.2.1 hG.1 (hR.one (zt1 hk (by decide))) 0 4 (by rw [zcE_5 hk]; rfl) rfl rfl hdg (kk ls hL)
      · split at hf
        · cases hE : E.2 a with
          | none => rw [hE] at hf; cases hf
          | some q =>
            obtain ⟨n', f⟩ := q
            rw [hE] at hf
            cases hf
            exact zOK.rd rfl fun Q H locs cells slots ls hR hS hL kk => va_tlen hX.1 hX.2.1 (hG.2.2.2.2.2.2 a n' f hE) hS rfl hdg (kk ls hL)
        · cases hf
    · cases hs
  · cases hs
theorem z_upd_i {cA : ClassId} {n : Nat} {f : Nat → Int32} {j : Nat} {x : Int32} : (vp_cell cA (n, .inl f)).setSlot j (.int x) = vp_cell cA (n, .inl (upd f j x)) := by
  rw [vp_cell_i, vp_cell_i, arrV_store]
  congr 2
  funext q
  by_cases hq : q = j
  · subst hq; simp [updV, upd]
  · simp [updV, upd, hq]
theorem z_upd_l {cA : ClassId} {n : Nat} {f : Nat → Int64} {j : Nat} {x : Int64} : (vp_cell cA (n, .inr (.inl f))).setSlot j (.long x) = vp_cell cA (n, .inr (.inl (vp_updL f j x))) := by
  rw [vp_cell_l, vp_cell_l, arrV_store]
  congr 2
  funext q
  by_cases hq : q = j
  · subst hq; simp [updV, vp_updL]
  · simp [updV, vp_updL, hq]
theorem z_upd_q {cA : ClassId} {n : Nat} {f : Nat → Option Nat} {j v : Nat} : (vp_cell cA (n, .inr (.inr (.inr (.inr f))))).setSlot j (.ref v) = vp_cell cA (n, .inr (.inr (.inr (.inr (va_up f j (some v)))))) := by
  rw [vp_cell_q, vp_cell_q, arrV_store]
  congr 2
  funext q
  by_cases hq : q = j
  · subst hq; simp [updV, va_up, va_rf]
  · simp [updV, va_up, hq]
theorem z_iast (hX : zC p R s m args meth c D cs b E M d) (hdg : decode (zcod M) pc = .ok (.iastore, 1)) (hs : i_iast (pc + 1) L S h = .inl f') : zOK p l e R s m args below meth c D cs b (pc, L, S, h) f' := by
  unfold i_iast at hs
  split at hs
  · next x i a S =>
    split at hs
    · next hk =>
      cases hz : zin_ i (hK h a).2 with
      | false => rw [hz] at hs; cases hs
      | true =>
        rw [hz] at hs
        cases hs
        refine zOK.wr rfl rfl fun Q H locs cells slots ls hR hS hL kk => ?_
        obtain ⟨q1, q2, q3⟩ := hR.2.2 a (zt1 hk (by decide))
        rw [zcE_1 hk] at q3
        refine W.iast hX.1 hX.2.1 q3 ((hX.2.2.2.2.2.2.1.1.2 0 _ rfl).1 (hK h a).2 (fun j => .int (hI h a j))) (fun q => by cases q) (by show ¬ (i < 0 ∨ (arrV _ _ _).slots.size ≤ _); rw [arrV_size]; exact zin_spec hz) rfl rfl hdg fun H1 e1 z1 oq => ?_
        refine kk H1 _ (hR.upd rfl rfl z1 oq ?_ (fun q hq => zcE_sI hq)) (hS.put z1 oq q1)
        rw [zcE_1 (show (hK (sI h a _) a).1 = 1 from hk), hI_sI_same]
        show H1[a]? = some (vp_cell _ _)
        rw [e1]
        exact congrArg some z_upd_i
    · cases hs
  · cases hs
theorem z_zast (hX : zC p R s m args meth c D cs b E M d) (hdg : decode (zcod M) pc = .ok (.bastore, 1)) (hs : i_zast (pc + 1) L S h = .inl f') : zOK p l e R s m args below meth c D cs b (pc, L, S, h) f' := by
  unfold i_zast at hs
  split at hs
  · next x i a S =>
    split at hs
    · next hk =>
      cases hz : zin_ i (hK h a).2 with
      | false => rw [hz] at hs; cases hs
      | true =>
        rw [hz] at hs
        cases hs
        refine zOK.wr rfl rfl fun Q H locs cells slots ls hR hS hL kk => ?_
        obtain ⟨q1, q2, q3⟩ := hR.2.2 a (zt1 hk (by decide))
        rw [zcE_3 hk] at q3
        refine W.zast hX.1 hX.2.1 q3 ((hX.2.2.2.2.2.2.1.1.2 2 _ rfl).1 (hK h a).2 (fun j => .int (hI h a j))) (fun q => by cases q) (by show ¬ (i < 0 ∨ (arrV _ _ _).slots.size ≤ _); rw [arrV_size]; exact zin_spec hz) rfl rfl hdg fun H1 e1 z1 oq => ?_
        refine kk H1 _ (hR.upd rfl rfl z1 oq ?_ (fun q hq => zcE_sI hq)) (hS.put z1 oq q1)
        rw [zcE_3 (show (hK (sI h a _) a).1 = 3 from hk), hI_sI_same]
        show H1[a]? = some (vp_cell _ _)
        rw [e1]
        exact congrArg some z_upd_i
    · cases hs
  · cases hs
theorem z_last (hX : zC p R s m args meth c D cs b E M d) (hdg : decode (zcod M) pc = .ok (.lastore, 1)) (hs : i_last (pc + 1) L S h = .inl f') : zOK p l e R s m args below meth c D cs b (pc, L, S, h) f' := by
  unfold i_last at hs
  split at hs
  · next x i a S =>
    split at hs
    · next hk =>
      cases hz : zin_ i (hK h a).2 with
      | false => rw [hz] at hs; cases hs
      | true =>
        rw [hz] at hs
        cases hs
        refine zOK.wr rfl rfl fun Q H locs cells slots ls hR hS hL kk => ?_
        obtain ⟨q1, q2, q3⟩ := hR.2.2 a (zt1 hk (by decide))
        rw [zcE_2 hk] at q3
        refine W.last hX.1 hX.2.1 q3 ((hX.2.2.2.2.2.2.1.1.2 1 _ rfl).1 (hK h a).2 (fun j => .long (hJ h a j))) (fun q => by cases q) (by show ¬ (i < 0 ∨ (arrV _ _ _).slots.size ≤ _); rw [arrV_size]; exact zin_spec hz) rfl rfl hdg fun H1 e1 z1 oq => ?_
        refine kk H1 _ (hR.upd rfl rfl z1 oq ?_ (fun q hq => zcE_sJ hq)) (hS.put z1 oq q1)
        rw [zcE_2 (show (hK (sJ h a _) a).1 = 2 from hk), hJ_sJ_same]
        show H1[a]? = some (vp_cell _ _)
        rw [e1]
        exact congrArg some z_upd_l
    · cases hs
  · cases hs
theorem z_rfup {f : Nat → Value} {k v : Nat} : (fun i => zrf (va_up f k (.ref v) i)) = va_up (fun i => zrf (f i)) k (some v) := by
  funext i
  unfold va_up
  split <;> rfl
theorem z_aast1 {a v i0 ci t n : Nat} {i : Int32} {H : Heap} {locs : List Loc} {cells slots : Nat} {ls : Array Slot} {Q : State → Prop} {cA : ClassId} (hX : zC p R s m args meth c D cs b E M d) (hdg : decode (zcod M) pc = .ok (.aastore, 1)) (hR : zHR D cs b h H) (hS : va_S (zA b) s.heap H locs) (hz : zin_ i (hK h a).2 = true) (hci : ci < 5) (hv : hK h v = (10 + ci, n)) (hk0 : (hK h a).1 ≠ 0)
    (hcell : ∀ g : mH, hK g = hK h → zcE cs g a = .inl (cA, (hK h a).2, .inr (.inr (.inr (.inr (fun i => zrf (hF g a i))))))) (hty : [(cs 0, FieldType.int), (cs 1, .long), (cs 2, .boolean), (cs 3, .object (zrn 1)), (cs 4, .object (zrn 2))][t]? = some (cA, .object (zrn ci)))
    (kk : ∀ (H' : Heap) (locs' : List Loc), zHR D cs b (sF h a i.toNatClampNeg (.ref v)) H' → va_S (zA b) s.heap H' locs' → W p l e R s m args below meth c H' locs' cells slots Q (F0 m (pc + 1) ls S)) : W p l e R s m args below meth c H locs cells slots Q (F0 m pc ls (.ref v :: .int i :: .ref a :: S)) := by
  have hKs := hX.2.2.2.2.2.2.1.1
  have hin := zin_spec hz
  have hlt : i.toNatClampNeg < (hK h a).2 := Nat.not_le.mp fun q => hin (Or.inr q)
  have h0 : ¬ i < 0 := fun q => hin (Or.inl q)
  obtain ⟨q1, q2, q3⟩ := hR.2.2 a hk0
  obtain ⟨v1, v2, v3⟩ := hR.2.2 v (by rw [hv]; show 10 + ci ≠ 0; omega)
  rw [hcell h rfl] at q3
  rw [zcE_o hv] at v3
  obtain ⟨r', hr', cellV, g1, g2, g3, -⟩ := v3
  have hcls := (hKs.1 ci _ (z_cl ci hci)).2
  obtain ⟨kA, comp, k1, k2, k3, -⟩ := (hKs.2 t _ hty).2
  have hcomp : comp = D.1 ci := Option.some.inj (k3.symm.trans hcls.1)
  subst hcomp
  obtain ⟨kC, hkC, -⟩ := hcls.2
  refine W.aast hX.1 hX.2.1 q3 (fun q h => by cases h) (fun h => by cases h) k1 k2 rfl hkC ⟨h0, by show _ < (arrV _ _ _).slots.size; rw [arrV_size]; exact hlt⟩ g1 (fun q h => by rw [g3] at h; cases h) (by rw [g2]; exact hkC) (by rw [g2]; exact va_assign hcls) rfl rfl hdg fun H1 e1 z1 oq => ?_
  refine kk H1 _ (hR.upd rfl rfl z1 oq ?_ (fun q hq => zcE_sF hq)) (hS.put z1 oq q1)
  rw [hcell (sF h a i.toNatClampNeg (.ref v)) rfl, hF_sF_same, z_rfup]
  show H1[a]? = some (vp_cell _ _)
  rw [e1]
  exact congrArg some z_upd_q
theorem z_aast (hX : zC p R s m args meth c D cs b E M d) (hdg : decode (zcod M) pc = .ok (.aastore, 1)) (hs : i_aast (pc + 1) L S h = .inl f') : zOK p l e R s m args below meth c D cs b (pc, L, S, h) f' := by
  unfold i_aast at hs
  split at hs
  · next v i a S =>
    split at hs
    · next hk =>
      cases hz : zin_ i (hK h a).2 with
      | false => rw [hz] at hs; cases hs
      | true =>
        rw [hz] at hs
        cases hs
        rcases hk with ⟨hk, hv⟩ | ⟨hk, hv⟩
        · exact zOK.wr rfl rfl fun Q H locs cells slots ls hR hS hL kk => z_aast1 (i0 := 0) (ci := 1) (t := 3) hX hdg hR hS hz (by decide) hv (zt1 hk (by decide)) (fun g hg => by rw [zcE_4 (by rw [hg]; exact hk), hg]) rfl kk
        · exact zOK.wr rfl rfl fun Q H locs cells slots ls hR hS hL kk => z_aast1 (i0 := 0) (ci := 2) (t := 4) hX hdg hR hS hz (by decide) hv (zt1 hk (by decide)) (fun g hg => by rw [zcE_5 (by rw [hg]; exact hk), hg]) rfl kk
    · cases hs
  · cases hs
-- fields
theorem z_getf {k : Nat} (hX : zC p R s m args meth c D cs b E M d) (hdg : decode (zcod M) pc = .ok (.getfield k, 3)) (hs : i_getf (zow M) k (pc + 3) L S h = .inl f') : zOK p l e R s m args below meth c D cs b (pc, L, S, h) f' := by
  unfold i_getf at hs
  split at hs
  · next a S =>
    split at hs
    · next ci j kd fin pl hq =>
      split at hs
      · next hk =>
        cases hs
        obtain ⟨t1, t2, t3, t4, t5, t6, t7⟩ := z_ft _ (zlk_mem hq)
        dsimp only at t1 t2 t3 t4 t5 t6 t7
        exact zOK.rd rfl fun Q H locs cells slots ls hR _ hL kk => va_get (ci := ci) (C := zrn ci) (T := zTT ci) (N := zNf ci) hX.1 hX.2.1 hX.2.2.2.2.1 (z_ws t4) hX.2.2.2.1 hX.2.2.2.2.2.2.1.1 (hR.one (a := a) (by rw [hk]; show 10 + ci ≠ 0; omega)) 0 (by rw [zcE_o hk]; rfl) (z_cl ci t4) j t3 (hX.2.2.2.2.1 _ (zin _ t1 t2)) (fun _ h9 => h9) (by rw [List.getElem?_map, List.getElem?_range t3]; rfl) hdg (kk ls hL)
      · cases hs
    · cases hs
  · cases hs
theorem z_fit {kd : Nat} {v : Value} {ty : FieldType} (hf : zfit kd v = true) (h : kd = 0 ∧ ty = .int ∨ kd = 1 ∧ ty = .boolean ∨ kd = 2 ∧ zisr (some ty) = true) : narrow ty v = v ∧ fits ty v = true := by
  rcases h with ⟨rfl, rfl⟩ | ⟨rfl, rfl⟩ | ⟨rfl, h⟩
  · cases v <;> first | exact ⟨rfl, rfl⟩ | cases hf
  · cases v with
    | int x =>
      have hf : decide (x = 0 ∨ x = 1) = true := hf
      rw [decide_eq_true_eq] at hf
      rcases hf with rfl | rfl <;> exact ⟨rfl, rfl⟩
    | _ => cases hf
  · cases ty <;> first | exact absurd h (by decide) | (cases v <;> first | exact ⟨rfl, rfl⟩ | cases hf)
theorem z_setmap {f : Nat → Value} {n k : Nat} {v : Value} (hk : k < n) : ((List.range n).map f).set k v = (List.range n).map (va_up f k v) := by
  apply List.ext_getElem?
  intro j
  rw [List.getElem?_set, List.getElem?_map, List.getElem?_map]
  by_cases q : k = j
  · subst q
    rw [if_pos rfl, List.getElem?_range hk]
    simp [hk, va_up]
  · rw [if_neg q]
    by_cases r : j < n
    · rw [List.getElem?_range r]
      simp [va_up, Ne.symm q]
    · rw [List.getElem?_eq_none (by simp; omega)]; rfl
theorem z_putf {k : Nat} (hX : zC p R s m args meth c D cs b E M d) (hdg : decode (zcod M) pc = .ok (.putfield k, 3)) (hs : i_putf M (zow M) k (pc + 3) L S h = .inl f') : zOK p l e R s m args below meth c D cs b (pc, L, S, h) f' := by
  unfold i_putf at hs
  split at hs
  · next v a S =>
    split at hs
    · next ci j kd fin pl hq =>
      split at hs
      · next hk =>
        obtain ⟨hk, hf, hfin⟩ := hk
        cases hs
        obtain ⟨t1, t2, t3, t4, t5, t6, t7⟩ := z_ft _ (zlk_mem hq)
        dsimp only at t1 t2 t3 t4 t5 t6 t7
        obtain ⟨n1, n2⟩ := z_fit hf t7
        have hty := z_ty ci t4 j t3
        have hnm := z_nm ci t4
        have hc := z_cl ci t4
        have hts := hX.2.2.2.2.1
        have hin := z_ws t4
        have hown := hX.2.2.2.1
        have hKK := hX.2.2.2.2.2.2.1.1
        have hlink := hts _ (zin _ t1 t2)
        have hz : (hK h a).1 ≠ 0 := by rw [hk]; show 10 + ci ≠ 0; omega
        refine zOK.wr rfl rfl fun Q H locs cells slots ls hR hS0 hL kk => ?_
        obtain ⟨r1, r2, r3⟩ := hR.2.2 a hz
        rw [zcE_o hk] at r3
        have hap := va_apart (own := zrn (zow M)) hts hin (zty ci) (z_ty ci t4) hnm hKK hc
        obtain ⟨r, h1, cell, q1, q2, q3, q4⟩ := r3
        have hr : r = (zrn ci, zTT ci, zNf ci) := Option.some.inj (h1.symm.trans hc)
        subst hr
        obtain ⟨hSl, hfc, kC, hkC, hkind⟩ := hKK.1 ci _ hc
        obtain ⟨cf, kf, fi, f, hi, hsl⟩ := hSl j t3
        have hlay := hts _ (hin _ (u_in_lay t3))
        have hst := (u_facts hfc hkC (u_lays hts hin t3) hi).1
        have fin1 : ∀ (H' : Heap), H'[a]? = some (cell.setSlot (D.2 ci j) v) → H'.size = H.size → (∀ q, q ≠ a → H'[q]? = H[q]?) → zHR D cs b (sF h a j v) H' := by
          intro H' e1 e2 e3
          refine hR.upd rfl rfl e2 e3 ?_ (fun q hq => zcE_sF hq)
          rw [zcE_o (show hK (sF h a j v) a = (10 + ci, zNf ci) from hk), hF_sF_same, ← z_setmap t3]
          exact ⟨_, hc, t_OB.to (V := updV (vp_V _) j v) ⟨_, e1, q2, q3, t_set q4 hap t3 v⟩ (fun i _ => vp_updV_set (by rw [List.length_map, List.length_range]; exact t3) v i)⟩
        unfold u_lay at hlay
        cases hb : fin with
        | false =>
          rw [hb] at t5
          rw [if_neg (by rw [t5]; decide)] at hlay
          have h6 := u_store hfc hkC hkind hlay hi hty n1 n2
          refine W.putK hX.1 hX.2.1 (f := f) ⟨hown, hlink, ⟨_, _, _, hi⟩, hst⟩ (by rw [q2]; exact h6) q1 q3 (by rw [hsl]; exact k2_hasslot (q4 j t3)) rfl rfl hdg fun H' e1 e2 e3 => ?_
          rw [hsl] at e1
          exact kk H' _ (fin1 H' e1 e2 e3) (hS0.put e2 e3 r1)
        | true =>
          rw [hb] at t5 hfin
          rw [if_pos t5] at hlay
          rcases hfin with hfin | ⟨hi2, ho⟩
          · cases hfin
          have hcf : m.cls = cf := by
            obtain ⟨_, _, c', _, _, _, -, -, hf', -, -, -, hown2, -⟩ := Cond.laysFinal_spec hlay
            have e1 : c' = cf := by have := hi.symm.trans hf'; simp at this; exact this.1.symm
            rw [t6, ho] at hown2
            rw [← e1]; exact Option.some.inj (hown.symm.trans hown2)
          have h6 := u_fits hfc hkC hkind (Or.inr hlay) hi hty n1 n2
          refine W.putFinK hX.1 hX.2.1 hown hlink hi hst hcf (hX.2.2.2.2.2.1 hi2) (by rw [q2]; exact h6) q1 q3 (by rw [hsl]; exact k2_hasslot (q4 j t3)) rfl rfl hdg fun H' e1 e2 e3 => ?_
          rw [hsl] at e1
          exact kk H' _ (fin1 H' e1 e2 e3) (hS0.put e2 e3 r1)
      · cases hs
    · cases hs
  · cases hs
theorem z_nwf {a : String} {i : Nat} {r n d o : String} {A : Array Value} {U : State} (q : va_Nw (.fieldLinkNest a i r n d o) U) : (Cond.fieldLinkNest a i r n d o).before A U = true := va_Nw.use rfl q
theorem z_gets {k : Nat} (hX : zC p R s m args meth c D cs b E M d) (hdg : decode (zcod M) pc = .ok (.getstatic k, 3)) (hs : i_gets E (zow M) k (pc + 3) L S h = .inl f') : zOK p l e R s m args below meth c D cs b (pc, L, S, h) f' := by
  unfold i_gets at hs
  split at hs
  · next j hq =>
    cases hs
    have hm := zlk_mem hq
    have hG := hX.2.2.2.2.2.2.1
    have hz := hG.2.2.2.2.2.1 j (z_st7 _ hm)
    have hw := z_nwf (A := args) (hG.2.2.1 _ hm)
    dsimp only at hw
    exact zOK.rd rfl fun Q H locs cells slots ls hR hS hL kk => va_getsN hX.1 hX.2.1 hz hS hX.2.2.2.1 hw (fun _ h9 => h9) hdg (kk ls hL)
  · cases hs
theorem z_ldc {k : Nat} (hX : zC p R s m args meth c D cs b E M d) (hdg : decode (zcod M) pc = .ok (.ldc k, 2)) (hs : i_ldc (zow M) k (pc + 2) L S h = .inl f') : zOK p l e R s m args below meth c D cs b (pc, L, S, h) f' := by
  unfold i_ldc at hs
  split at hs
  · next v pl hq =>
    cases hs
    obtain ⟨t1, t2⟩ := z_ct _ (zlk_mem hq)
    exact zOK.pu fun Q H locs cells slots ls _ kk => lv_ldc hX.1 hX.2.1 hX.2.2.2.1 (hX.2.2.2.2.1 _ (zin _ t1 t2)) hdg kk
  · cases hs
theorem z_ldc2 {k : Nat} (hX : zC p R s m args meth c D cs b E M d) (hdg : decode (zcod M) pc = .ok (.ldc2_w k, 3)) (hs : i_ldc2 (zow M) k (pc + 3) L S h = .inl f') : zOK p l e R s m args below meth c D cs b (pc, L, S, h) f' := by
  unfold i_ldc2 at hs
  split at hs
  · next v pl hq =>
    cases hs
    obtain ⟨t1, t2⟩ := z_dt _ (zlk_mem hq)
    exact zOK.pu fun Q H locs cells slots ls _ kk => lv_ldc2 hX.1 hX.2.1 hX.2.2.2.1 (hX.2.2.2.2.1 _ (zin _ t1 t2)) hdg kk
  · cases hs
-- what is made
theorem z_new {k : Nat} (hX : zC p R s m args meth c D cs b E M d) (hdg : decode (zcod M) pc = .ok (.new k, 3)) (hs : i_new (zow M) k (pc + 3) L S h = .inl f') : zOK p l e R s m args below meth c D cs b (pc, L, S, h) f' := by
  unfold i_new at hs
  split at hs
  · next ci pl hq =>
    cases hs
    obtain ⟨t1, t2, t3⟩ := z_nt _ (zlk_mem hq)
    dsimp only at t1 t2 t3
    have hts := hX.2.2.2.2.1
    have hc := z_cl ci t3
    have hKn := hX.2.2.2.2.2.2.1.1.1 ci _ hc
    refine zOK.al fun Q H locs cells slots ls hR hS r1 r2 kk => ?_
    refine W.newcK hX.1 hX.2.1 hX.2.2.2.1 (hts _ (zin _ t1 t2)) (hts _ (z_inst ci t3)) (hts _ (z_ini ci t3)) rfl hdg r1 r2 hKn.2.1 rfl fun H1 kC hkC e1 z1 o1 => ?_
    rw [hR.1] at e1 z1 o1 ⊢
    refine kk H1 z1 o1 ?_
    have hk : hK (aH h (10 + ci) (zNf ci) (zNf ci) (fun k => (zdf ci).getD k .null)) (hN h) = (10 + ci, zNf ci) := va_up_self _ _ _
    rw [zcE_o hk]
    have hF' : hF (aH h (10 + ci) (zNf ci) (zNf ci) (fun k => (zdf ci).getD k .null)) (hN h) = fun k => (zdf ci).getD k .null := va_up_self _ _ _
    rw [hF']
    refine ⟨_, hc, (u_born (zty ci) hts (z_ws t3) hKn hkC e1 (z_ty ci t3)).to fun j hj => ?_⟩
    rw [z_df ci t3 j hj]
    unfold vp_V
    rw [List.getD_eq_getElem?_getD (l := List.map _ _), List.getElem?_map, List.getElem?_range hj]
    rfl
  · cases hs
theorem z_newa {t : ArrayType} (hX : zC p R s m args meth c D cs b E M d) (hdg : decode (zcod M) pc = .ok (.newarray t, 2)) (hs : i_newa t (pc + 2) L S h = .inl f') : zOK p l e R s m args below meth c D cs b (pc, L, S, h) f' := by
  unfold i_newa at hs
  split at hs
  · next n S =>
    split at hs
    · next hn =>
      have hts := hX.2.2.2.2.1
      have hKs := hX.2.2.2.2.2.2.1.1.2
      cases t <;> dsimp only at hs <;> try (cases hs; done)
      all_goals
        cases hs
        refine zOK.al fun Q H locs cells slots ls hR hS r1 r2 kk => ?_
      · refine va_newaK (atype := .boolean) hX.1 hX.2.1 (hts _ zw_12) rfl hdg rfl (zge hn.1) rfl (by have := hn.2; show n.toNatClampNeg * 1 ≤ _; omega) r1 r2 rfl fun H1 cA e1 z1 o1 hAr hNm => ?_
        rw [hR.1] at e1 z1 o1 ⊢
        refine kk H1 z1 o1 ?_
        rw [zcE_3 (show (hK (aH h 3 _ _ _) (hN h)).1 = 3 by show (va_up _ _ _ _ : Nat × Nat).1 = _; rw [va_up_self])]
        have e0 : cA = cs 2 := Option.some.inj (hNm.symm.trans (hKs 2 _ rfl).2)
        rw [show hK (aH h 3 n.toNatClampNeg n.toNatClampNeg (fun _ => .null)) (hN h) = (3, n.toNatClampNeg) from va_up_self _ _ _, show hI (aH h 3 n.toNatClampNeg n.toNatClampNeg (fun _ => .null)) (hN h) = fun _ => 0 from va_up_self _ _ _, ← e0]
        exact e1
      · refine va_newaK (atype := .int) hX.1 hX.2.1 (hts _ zw_10) rfl hdg rfl (zge hn.1) rfl (by have := hn.2; show n.toNatClampNeg * 4 ≤ _; omega) r1 r2 rfl fun H1 cA e1 z1 o1 hAr hNm => ?_
        rw [hR.1] at e1 z1 o1 ⊢
        refine kk H1 z1 o1 ?_
        rw [zcE_1 (show (hK (aH h 1 _ _ _) (hN h)).1 = 1 by show (va_up _ _ _ _ : Nat × Nat).1 = _; rw [va_up_self])]
        have e0 : cA = cs 0 := Option.some.inj (hNm.symm.trans (hKs 0 _ rfl).2)
        rw [show hK (aH h 1 n.toNatClampNeg n.toNatClampNeg (fun _ => .null)) (hN h) = (1, n.toNatClampNeg) from va_up_self _ _ _, show hI (aH h 1 n.toNatClampNeg n.toNatClampNeg (fun _ => .null)) (hN h) = fun _ => 0 from va_up_self _ _ _, ← e0]
        exact e1
      · refine va_newaK (atype := .long) hX.1 hX.2.1 (hts _ zw_11) rfl hdg rfl (zge hn.1) rfl (by have := hn.2; show n.toNatClampNeg * 8 ≤ _; omega) r1 r2 rfl fun H1 cA e1 z1 o1 hAr hNm => ?_
        rw [hR.1] at e1 z1 o1 ⊢
        refine kk H1 z1 o1 ?_
        rw [zcE_2 (show (hK (aH h 2 _ _ _) (hN h)).1 = 2 by show (va_up _ _ _ _ : Nat × Nat).1 = _; rw [va_up_self])]
        have e0 : cA = cs 1 := Option.some.inj (hNm.symm.trans (hKs 1 _ rfl).2)
        rw [show hK (aH h 2 n.toNatClampNeg n.toNatClampNeg (fun _ => .null)) (hN h) = (2, n.toNatClampNeg) from va_up_self _ _ _, show hJ (aH h 2 n.toNatClampNeg n.toNatClampNeg (fun _ => .null)) (hN h) = fun _ => 0 from va_up_self _ _ _, ← e0]
        exact e1
    · cases hs
  · cases hs
theorem z_newq {k : Nat} (hX : zC p R s m args meth c D cs b E M d) (hdg : decode (zcod M) pc = .ok (.anewarray k, 3)) (hs : i_newq (zow M) k (pc + 3) L S h = .inl f') : zOK p l e R s m args below meth c D cs b (pc, L, S, h) f' := by
  unfold i_newq at hs
  split at hs
  · next n S =>
    split at hs
    · next hn =>
      have hts := hX.2.2.2.2.1
      have hG := hX.2.2.2.2.2.2.1
      have hKs := hG.1.2
      split at hs
      · next pl hq =>
        cases hs
        obtain ⟨t1, t2, t3⟩ := z_nt _ (zlk_mem hq)
        refine zOK.al fun Q H locs cells slots ls hR hS r1 r2 kk => ?_
        refine W.anew hX.1 hX.2.1 hX.2.2.2.1 (hts _ (zin _ t1 t2)) (va_AO.use hG.2.2.2.1) rfl hdg rfl (zge hn.1) (by have := hn.2; omega) r1 r2 fun cA kA comp f1 f2 f3 f4 => ?_
        rw [hR.1]
        have e0 : cA = cs 3 := by
          obtain ⟨_, _, _, _, _, q⟩ := (hKs 3 _ rfl).2
          exact Option.some.inj (f1.symm.trans q)
        refine kk _ (by rw [Array.size_push, hR.1]) (fun q hq => by rw [Array.getElem?_push, if_neg (by rw [hR.1]; omega)]) ?_
        rw [zcE_4 (show (hK (aH h 4 _ _ _) (hN h)).1 = 4 by show (va_up _ _ _ _ : Nat × Nat).1 = _; rw [va_up_self])]
        rw [show hK (aH h 4 n.toNatClampNeg n.toNatClampNeg (fun _ => .null)) (hN h) = (4, n.toNatClampNeg) from va_up_self _ _ _, show hF (aH h 4 n.toNatClampNeg n.toNatClampNeg (fun _ => .null)) (hN h) = fun _ => .null from va_up_self _ _ _, ← e0]
        show (H.push _)[hN h]? = some (vp_cell _ _)
        rw [← hR.1, Array.getElem?_push_size, vp_cell_q]
        exact congrArg some (arrV_new _ _ _)
      · next pl hq =>
        cases hs
        obtain ⟨t1, t2, t3⟩ := z_nt _ (zlk_mem hq)
        refine zOK.al fun Q H locs cells slots ls hR hS r1 r2 kk => ?_
        refine W.anew hX.1 hX.2.1 hX.2.2.2.1 (hts _ (zin _ t1 t2)) (va_AO.use hG.2.2.2.2.1) rfl hdg rfl (zge hn.1) (by have := hn.2; omega) r1 r2 fun cA kA comp f1 f2 f3 f4 => ?_
        rw [hR.1]
        have e0 : cA = cs 4 := by
          obtain ⟨_, _, _, _, _, q⟩ := (hKs 4 _ rfl).2
          exact Option.some.inj (f1.symm.trans q)
        refine kk _ (by rw [Array.size_push, hR.1]) (fun q hq => by rw [Array.getElem?_push, if_neg (by rw [hR.1]; omega)]) ?_
        rw [zcE_5 (show (hK (aH h 5 _ _ _) (hN h)).1 = 5 by show (va_up _ _ _ _ : Nat × Nat).1 = _; rw [va_up_self])]
        rw [show hK (aH h 5 n.toNatClampNeg n.toNatClampNeg (fun _ => .null)) (hN h) = (5, n.toNatClampNeg) from va_up_self _ _ _, show hF (aH h 5 n.toNatClampNeg n.toNatClampNeg (fun _ => .null)) (hN h) = fun _ => .null from va_up_self _ _ _, ← e0]
        show (H.push _)[hN h]? = some (vp_cell _ _)
        rw [← hR.1, Array.getElem?_push_size, vp_cell_q]
        exact congrArg some (arrV_new _ _ _)
      · cases hs
    · cases hs
  · cases hs
end
