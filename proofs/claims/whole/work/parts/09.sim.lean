/-! ===== copies, and all together: a run of my machine is a run of the machine ===== -/
section
variable {p : Program} {l : Launch} {e : Env} {R : Room} {s : State} {m : MethodId} {args : Array Value} {below : List Frame} {meth : Method} {c : Code} {D : va_G} {cs : Nat → ClassId} {b : Nat} {E : mE} {M d : Nat} {pc pc' : Nat} {L L' : mL} {S S' : List Value} {h h' : mH} {f' : mF} {C : Nat → List Value → mH → Option mR}
theorem z_copy {α : Type} (mk : α → Value) {H : Heap} {locs : List Loc} {cells slots : Nat} {ls : Array Slot} {Q : State → Prop} {k a0 a n0 n1 : Nat} {c0 c1 : ClassId} {f g : Nat → α} {ty : FieldType} {sp dp n : Int32} {rest : List Value} (hX : zC p R s m args meth c D cs b E M d) (hml : c.maxLocals = ls.size) (hlink : (Cond.methodLink (zrn (zow M)) k arraycopyName).before args s = true)
    (hc0 : H[a0]? = some (arrV c0 n0 (fun j => mk (f j)))) (hc1 : H[a]? = some (arrV c1 n1 (fun j => mk (g j)))) (hA0 : ArrOfT s c0 ty) (hA1 : ArrOfT s c1 ty) (hprim : refKind ty = false) (h1 : ¬ sp < 0) (h2 : ¬ dp < 0) (h3 : ¬ n < 0) (h4 : sp.toNatClampNeg + n.toNatClampNeg ≤ n0) (h5 : dp.toNatClampNeg + n.toNatClampNeg ≤ n1) (hfit : ∀ i, fits ty (mk (f i)) = true) (hnr : ∀ i, ∀ q, mk (f i) ≠ .ref q)
    (hcat : zcat rest ≤ 8) (hdg : decode (zcod M) pc = .ok (.invokestatic k, 3))
    (kk : ∀ (H1 : Heap) (locs1 : List Loc), H1[a]? = some (arrV c1 n1 (fun j => mk (va_cpy f g sp.toNatClampNeg dp.toNatClampNeg n.toNatClampNeg j))) → H1.size = H.size → (∀ q : Nat, q ≠ a → H1[q]? = H[q]?) → (∀ q ∈ locs1, q ∈ locs ∨ q.base = a) → W p l e R s m args below meth c H1 locs1 cells slots Q (F0 m (pc + 3) ls rest)) : W p l e R s m args below meth c H locs cells slots Q (F0 m pc ls (.int n :: .int dp :: .ref a :: .int sp :: .ref a0 :: rest)) := by
  have hts := hX.2.2.2.2.1
  have nn : ∀ z : Int32, ¬ z < 0 → z.toInt = (z.toNatClampNeg : Int) := by
    intro z hz
    have hz0 : (0 : Int) ≤ z.toInt := by
      have := Int32.not_lt.mp hz
      simpa using Int32.le_iff_toInt_le.mp this
    show z.toInt = ((z.toInt.toNat : Nat) : Int)
    omega
  have hlo : 2 * (F0 m pc ls (.int n :: .int dp :: .ref a :: .int sp :: .ref a0 :: rest)).monitorRoom + (List.map (fun v => v.category) rest).sum + (nativeFrameWords "java/lang/System" "arraycopy" 5 + 11) ≤ R.locals := by
    have := hX.2.2.2.2.2.2.2.2.1
    have e9 : nativeFrameWords "java/lang/System" "arraycopy" 5 = 7 := by decide +kernel
    rw [e9]
    show 2 * 0 + zcat rest + (7 + 11) ≤ _
    omega
  intro T hT X
  obtain ⟨-, k0, hk0, cm0, hkk0⟩ := hA0 n0 (fun j => mk (f j))
  obtain ⟨-, k1, hk1, cm1, hkk1⟩ := hA1 n1 (fun j => mk (g j))
  obtain ⟨vm', X', step⟩ := X.arraycopy hX.1 hX.2.2.2.1 hlink (hts _ zw_2) (hts _ zw_3) (hts _ zw_4) (src := a0) (dst := a) (cs := arrV c0 n0 (fun j => mk (f j))) (cd := arrV c1 n1 (fun j => mk (g j))) (srcPos := sp) (destPos := dp) (n := n) (by rw [hT]; exact hc0) (by rw [hT]; exact hc1)
    (fun _ h => by cases h) (fun _ h => by cases h) (fun h => by cases h) (fun h => by cases h) hk0 hk1 hkk0 hkk1 (by simp [hprim]) h1 h2 h3
    (by rw [nn sp h1, nn n h3, arrV_size]; omega)
    (by rw [nn dp h2, nn n h3, arrV_size]; omega)
    (fun vm₁ _ i hi => by
      have e : (arrV c0 n0 (fun j => mk (f j))).slots.getD (sp.toNatClampNeg + i) .null = mk (f (sp.toNatClampNeg + i)) := by
        rw [Array.getD_eq_getD_getElem?, arrV_read _ _ (by omega)]
        rfl
      refine ⟨?_, ?_⟩
      · rw [e]
        exact hfit _
      · rw [e]
        have := hnr (sp.toNatClampNeg + i)
        cases hm : mk (f (sp.toNatClampNeg + i)) <;> first | exact trivial | exact absurd hm (this _))
    (g := F0 m pc ls (.int n :: .int dp :: .ref a :: .int sp :: .ref a0 :: rest)) rfl (by rw [hml]) (rest := rest) rfl (by rw [hX.2.1]; exact hdg) (by have := hX.2.2.2.2.2.2.2.1; omega) hlo
  have e1 : copied (arrV c0 n0 (fun j => mk (f j))) (arrV c1 n1 (fun j => mk (g j))) sp dp n = arrV c1 n1 (fun j => mk (va_cpy f g sp.toNatClampNeg dp.toNatClampNeg n.toNatClampNeg j)) := va_copied mk c0 c1 f g h4
  rw [e1] at X' step
  have hl : a < H.size := (Array.getElem?_eq_some_iff.mp hc1).1
  obtain ⟨t, a1, b1⟩ := kk (H.setIfInBounds a (arrV c1 n1 (fun j => mk (va_cpy f g sp.toNatClampNeg dp.toNatClampNeg n.toNatClampNeg j)))) _ (by simp [Array.getElem?_setIfInBounds, hl]) (by simp) (fun q hq => by simp [Array.getElem?_setIfInBounds, Ne.symm hq]) (fun q hq => by
      rcases List.mem_append.mp hq with h | h
      · exact Or.inl h
      · obtain ⟨z, -, hz⟩ := List.mem_map.mp h
        rw [← hz]
        exact Or.inr rfl) _ (by rw [← hT]; rfl) X'
  exact ⟨t, step t a1, b1⟩
theorem z_cpy {k : Nat} {pl : Nat × Nat × Nat} (hX : zC p R s m args meth c D cs b E M d) (hLl : L.length = zmx M) (hdg : decode (zcod M) pc = .ok (.invokestatic k, 3)) (hq : zlk (zow M) k zlt = some (5, pl)) (hs : i_cpy (pc + 3) L S h = .inl f') : zOK p l e R s m args below meth c D cs b (pc, L, S, h) f' := by
  obtain ⟨w1, w2⟩ := (z_lt2 _ (zlk_mem hq)).2.2.1 rfl
  dsimp only at w1 w2
  have hlink := hX.2.2.2.2.1 _ (zin _ w1 w2)
  have hKs := hX.2.2.2.2.2.2.1.1.2
  unfold i_cpy at hs
  split at hs
  · next n dp a sp a0 S =>
    split at hs
    · next hq =>
      obtain ⟨g1, g2, g3, g4, g5, g6⟩ := hq
      split at hs
      · next hk =>
        cases hs
        refine zOK.wr rfl rfl fun Q H locs cells slots ls hR hS hL kk => ?_
        obtain ⟨q1, q2, q3⟩ := hR.2.2 a (zt1 hk.2 (by decide))
        obtain ⟨u1, u2, u3⟩ := hR.2.2 a0 (zt1 hk.1 (by decide))
        rw [zcE_1 hk.2] at q3
        rw [zcE_1 hk.1] at u3
        refine z_copy (fun z => Value.int z) (ty := .int) (f := hI h a0) (g := hI h a) hX (by rw [hL.size, hLl, hX.2.2.1]) hlink u3 q3 (hKs 0 _ rfl).1 (hKs 0 _ rfl).1 rfl (zge g1) (zge g2) (zge g3) g4 g5 (fun _ => rfl) (fun _ _ q => by cases q) g6 hdg fun H1 locs1 e1 z1 oq hl => ?_
        refine kk H1 locs1 (hR.upd rfl rfl z1 oq ?_ (fun q hq => zcE_sI hq)) ⟨by rw [z1]; exact hS.1, fun q i1 i2 => by rw [oq q (fun x => i2 (by rw [x]; exact q1))]; exact hS.2.1 q i1 i2, fun q hq => ?_⟩
        · rw [zcE_1 (show (hK (sI h a _) a).1 = 1 from hk.2), hI_sI_same]
          exact e1
        · rcases hl q hq with x | x
          · exact hS.2.2 q x
          · rw [x]; exact q1
      · split at hs
        · next hk =>
          cases hs
          refine zOK.wr rfl rfl fun Q H locs cells slots ls hR hS hL kk => ?_
          obtain ⟨q1, q2, q3⟩ := hR.2.2 a (zt1 hk.2 (by decide))
          obtain ⟨u1, u2, u3⟩ := hR.2.2 a0 (zt1 hk.1 (by decide))
          rw [zcE_2 hk.2] at q3
          rw [zcE_2 hk.1] at u3
          refine z_copy (fun z => Value.long z) (ty := .long) (f := hJ h a0) (g := hJ h a) hX (by rw [hL.size, hLl, hX.2.2.1]) hlink u3 q3 (hKs 1 _ rfl).1 (hKs 1 _ rfl).1 rfl (zge g1) (zge g2) (zge g3) g4 g5 (fun _ => rfl) (fun _ _ q => by cases q) g6 hdg fun H1 locs1 e1 z1 oq hl => ?_
          refine kk H1 locs1 (hR.upd rfl rfl z1 oq ?_ (fun q hq => zcE_sJ hq)) ⟨by rw [z1]; exact hS.1, fun q i1 i2 => by rw [oq q (fun x => i2 (by rw [x]; exact q1))]; exact hS.2.1 q i1 i2, fun q hq => ?_⟩
          · rw [zcE_2 (show (hK (sJ h a _) a).1 = 2 from hk.2), hJ_sJ_same]
            exact e1
          · rcases hl q hq with x | x
            · exact hS.2.2 q x
            · rw [x]; exact q1
        · cases hs
    · cases hs
  · cases hs
theorem zOK.pr (k : ∀ (Q : State → Prop) (H : Heap) (locs : List Loc) (cells slots : Nat) (ls : Array Slot), zLR L ls → cells ≤ R.cells → slots ≤ R.slots → W p l e R s m args below meth c H locs cells slots Q (F0 m pc' ls S') → W p l e R s m args below meth c H locs cells slots Q (F0 m pc ls S)) : zOK p l e R s m args below meth c D cs b (pc, L, S, h) (pc', L, S', h) := by
  refine ⟨rfl, Nat.le_refl _, Nat.le_refl _, fun Q H locs cells slots ls hR hS hL r1 r2 kk => ?_⟩
  have := kk H locs ls hR hS hL
  simp only [Nat.sub_self, Nat.add_zero] at this r1 r2
  exact k Q H locs cells slots ls hL r1 r2 this
theorem z_stat {k : Nat} (hX : zC p R s m args meth c D cs b E M d) (hLl : L.length = zmx M) (hC : zMet l D cs b E d C) (hdg : decode (zcod M) pc = .ok (.invokestatic k, 3)) (hs : i_stat C (zow M) k (pc + 3) L S h = .inl f') : zOK p l e R s m args below meth c D cs b (pc, L, S, h) f' := by
  unfold i_stat at hs
  have hts := hX.2.2.2.2.1
  split at hs
  · next t n pl hq => exact z_stat0 hX hLl hC hdg hq hs
  · next hq => exact z_cpy hX hLl hdg hq hs
  · next hq =>
    obtain ⟨w1, w2⟩ := (z_lt2 _ (zlk_mem hq)).2.2.2.1 rfl
    dsimp only at w1 w2
    unfold i_mm at hs
    split at hs
    · next y x S =>
      split at hs
      · next hcat =>
        cases hs
        exact zOK.pr fun Q H locs cells slots ls hL r1 r2 kk => va_mmin hX.1 hX.2.1 (by rw [hL.size, hLl, hX.2.2.1]) hX.2.2.2.1 (hts _ (zin _ w1 w2)) (hts _ zw_5) (hts _ zw_6) (hts _ zw_7) (by have := hX.2.2.2.2.2.2.2.1; omega) (by have := hX.2.2.2.2.2.2.2.2.1; show zcat S + 13 ≤ _; omega) r1 r2 hdg kk
      · cases hs
    · cases hs
  · next hq =>
    obtain ⟨w1, w2⟩ := (z_lt2 _ (zlk_mem hq)).2.2.2.2 rfl
    dsimp only at w1 w2
    unfold i_mm at hs
    split at hs
    · next y x S =>
      split at hs
      · next hcat =>
        cases hs
        exact zOK.pr fun Q H locs cells slots ls hL r1 r2 kk => va_mmax hX.1 hX.2.1 (by rw [hL.size, hLl, hX.2.2.1]) hX.2.2.2.1 (hts _ (zin _ w1 w2)) (hts _ zw_8) (hts _ zw_6) (hts _ zw_9) (by have := hX.2.2.2.2.2.2.2.1; omega) (by have := hX.2.2.2.2.2.2.2.2.1; show zcat S + 13 ≤ _; omega) r1 r2 hdg kk
      · cases hs
    · cases hs
  · cases hs
set_option maxHeartbeats 4000000 in
/-- a step that goes on -/
theorem z_ins {i : Instr} (hX : zC p R s m args meth c D cs b E M d) (hLl : L.length = zmx M) (hC : zMet l D cs b E d C) (hdg : decode (zcod M) pc = .ok (i, zlen i)) (hs : ins E C M i pc (pc + zlen i) L S h = .inl f') : zOK p l e R s m args below meth c D cs b (pc, L, S, h) f' := by
  cases i
  case iload k => exact z_ild hX hdg hs
  case iload_n k => exact z_ild_n hX hdg hs
  case lload k => exact z_lld hX hdg hs
  case lload_n k => exact z_lld_n hX hdg hs
  case aload k => exact z_ald hX hdg hs
  case aload_n k => exact z_ald_n hX hdg hs
  case istore k => exact z_ist hX hdg hs
  case istore_n k => exact z_ist_n hX hdg hs
  case lstore k => exact z_lst hX hdg hs
  case lstore_n k => exact z_lst_n hX hdg hs
  case astore k => exact z_ast hX hdg hs
  case astore_n k => exact z_ast_n hX hdg hs
  case iinc k n => exact z_inc hX hdg hs
  case iconst n => cases hs; exact zOK.pu fun Q H locs cells slots ls _ kk => lv_iconst hX.1 hX.2.1 hdg rfl kk
  case bipush n => cases hs; exact zOK.pu fun Q H locs cells slots ls _ kk => lv_bipush hX.1 hX.2.1 hdg rfl kk
  case sipush n => cases hs; exact zOK.pu fun Q H locs cells slots ls _ kk => lv_sipush hX.1 hX.2.1 hdg rfl kk
  case lconst n => cases hs; exact zOK.pu fun Q H locs cells slots ls _ kk => lv_lconst hX.1 hX.2.1 hdg rfl kk
  case aconst_null => cases hs; exact zOK.pu fun Q H locs cells slots ls _ kk => lv_null hX.1 hX.2.1 hdg kk
  case ldc k => exact z_ldc hX hdg hs
  case ldc2_w k => exact z_ldc2 hX hdg hs
  case iadd => exact z_b (i := .iadd) (fun _ _ _ _ _ _ _ _ _ kk => lv_iadd hX.1 hX.2.1 hdg kk) hs
  case isub => exact z_b (i := .isub) (fun _ _ _ _ _ _ _ _ _ kk => lv_isub hX.1 hX.2.1 hdg kk) hs
  case imul => exact z_b (i := .imul) (fun _ _ _ _ _ _ _ _ _ kk => lv_imul hX.1 hX.2.1 hdg kk) hs
  case iand => exact z_b (i := .iand) (fun _ _ _ _ _ _ _ _ _ kk => lv_iand hX.1 hX.2.1 hdg kk) hs
  case ior => exact z_b (i := .ior) (fun _ _ _ _ _ _ _ _ _ kk => lv_ior hX.1 hX.2.1 hdg kk) hs
  case ishl => exact z_b (i := .ishl) (fun _ _ _ _ _ _ _ _ _ kk => lv_ishl hX.1 hX.2.1 hdg kk) hs
  case idiv => exact z_bd (fun _ _ _ _ _ _ _ _ _ hy kk => lv_idiv hX.1 hX.2.1 hdg hy kk) hs
  case irem => exact z_bd (fun _ _ _ _ _ _ _ _ _ hy kk => lv_irem hX.1 hX.2.1 hdg hy kk) hs
  case ladd => exact z_lb (fun _ _ _ _ _ _ _ _ _ kk => lv_ladd hX.1 hX.2.1 hdg kk) hs
  case lsub => exact z_lb (fun _ _ _ _ _ _ _ _ _ kk => lv_lsub hX.1 hX.2.1 hdg kk) hs
  case lmul => exact z_lb (fun _ _ _ _ _ _ _ _ _ kk => lv_lmul hX.1 hX.2.1 hdg kk) hs
  case land => exact z_lb (fun _ _ _ _ _ _ _ _ _ kk => lv_land hX.1 hX.2.1 hdg kk) hs
  case lor => exact z_lb (fun _ _ _ _ _ _ _ _ _ kk => lv_lor hX.1 hX.2.1 hdg kk) hs
  case lxor => exact z_lb (fun _ _ _ _ _ _ _ _ _ kk => lv_lxor hX.1 hX.2.1 hdg kk) hs
  case lshl => exact z_ls (fun _ _ _ _ _ _ _ _ _ kk => lv_lshl hX.1 hX.2.1 hdg rfl kk) hs
  case lushr => exact z_ls (fun _ _ _ _ _ _ _ _ _ kk => lv_lushr hX.1 hX.2.1 hdg rfl kk) hs
  case i2l => exact z_u (fun _ _ _ _ _ _ _ _ kk => lv_i2l hX.1 hX.2.1 hdg rfl kk) hs
  case i2b => exact z_u (fun _ _ _ _ _ _ _ _ kk => lv_i2b hX.1 hX.2.1 hdg rfl kk) hs
  case i2s => exact z_u (fun _ _ _ _ _ _ _ _ kk => lv_i2s hX.1 hX.2.1 hdg rfl kk) hs
  case l2i => exact z_l2i hX hdg hs
  case lcmp => exact z_lcmp hX hdg hs
  case dup => exact z_dup hX hdg hs
  case dup2 => exact z_dup2 hX hdg hs
  case goto off => exact z_goto hX hdg hs
  case ifCond cd off => exact z_if1 hX hdg hs
  case if_icmp cd off => exact z_if2 hX hdg hs
  case ifnull off => exact z_null hX hdg hs
  case ifnonnull off => exact z_nonnull hX hdg hs
  case iaload => exact z_iald hX hdg hs
  case laload => exact z_lald hX hdg hs
  case baload => exact z_zald hX hdg hs
  case aaload => exact z_aald hX hdg hs
  case iastore => exact z_iast hX hdg hs
  case lastore => exact z_last hX hdg hs
  case bastore => exact z_zast hX hdg hs
  case aastore => exact z_aast hX hdg hs
  case arraylength => exact z_alen hX hdg hs
  case newarray t => exact z_newa hX hdg hs
  case anewarray k => exact z_newq hX hdg hs
  case new k => exact z_new hX hdg hs
  case getfield k => exact z_getf hX hdg hs
  case putfield k => exact z_putf hX hdg hs
  case getstatic k => exact z_gets hX hdg hs
  case invokevirtual k => exact z_virt hX hLl hC hdg hs
  case invokespecial k => exact z_spec hX hLl hC hdg hs
  case invokestatic k => exact z_stat hX hLl hC hdg hs
  case tableswitch df lo hi offs => exact z_tsw hX hdg hs
  case ireturn =>
    simp only [ins, i_ret] at hs
    repeat' split at hs
    all_goals cases hs
  case lreturn =>
    simp only [ins, i_lret] at hs
    repeat' split at hs
    all_goals cases hs
  case areturn =>
    simp only [ins, i_aret] at hs
    cases hb : zisr (zrt M) <;> rw [hb] at hs <;> simp only [cond_true, cond_false] at hs <;> (repeat' split at hs) <;> cases hs
  case return_ =>
    simp only [ins, i_vret] at hs
    repeat' split at hs
    all_goals cases hs
  all_goals cases hs
end
