set_option maxHeartbeats 4000000 in
set_option maxRecDepth 100000 in
theorem cl_infer (l : Launch) (hl9 : l.stackTraces = false) (dC : Nat → ClassId) (dI : Nat → Nat → Nat) (h0 : Nat) (u : Nat → Nat) (o0 : Nat) (sa : Nat) (sz : Nat) : Met l yL_infer (Cond.codeWith yL_infer cL_infer 3 (some .int) [(0, 8, 11, 13)] :: BG) ({ frames := 7, cells := 1, slots := 6, locals := 112 }) (va_Pc [.ref h0, .ref o0] (fun U => U.heap.size = sz ∧ va_P (dC, dI) vwCl [(h0, .inr (6, CO u 0 0 0))] U.heap ∧ va_K (dC, dI) vwCl [] U ∧ va_D (fun _ => True) [(h0, .inr (6, CO u 0 0 0))] ∧ XN "java/lang/IllegalStateException" 85 "a type is found for a parsed term" sa (va_A [(h0, .inr (6, CO u 0 0 0))] sz) U U.heap)) (va_Qi (fun (r9 : Int32) (u9 : Unit) => r9 = 1) (fun (_u : Unit) (t9 : State) => va_P (dC, dI) vwCl [] t9.heap ∧ va_K (dC, dI) vwCl [] t9 ∧ va_D (va_A [(h0, .inr (6, CO u 0 0 0))] sz) []) (va_A [(h0, .inr (6, CO u 0 0 0))] sz)) 1 6 (va_A [(h0, .inr (6, CO u 0 0 0))] sz) := by
  refine va_MetW (cc := cL_infer) (maxL := 3) (ret := (some .int)) (hh := [(0, 8, 11, 13)]) (by decide) rfl ?_
  intro p e s m args below meth c s₁ B hml hv
  obtain ⟨rfl, hsz, hP, hK, hD0, hE⟩ := hv
  have hx := B.exec
  have hb := B.bytes
  have hr := B.returns
  have hts := atoms_spec (ws := Cond.codeWith yL_infer cL_infer 3 (some .int) [(0, 8, 11, 13)] :: BG) B.pre
  have hB : ∀ w ∈ BG, w.before _ s = true := fun w h => hts w (List.mem_cons_of_mem _ h)
  have hown : s.vm.findClass RL = some m.cls := findClass_of_methodNamed B.named
  have hlocks := B.notSynchronized
  subst hsz
  have hD := hD0.self (sz := s.heap.size)
  generalize hAe : va_A [(h0, .inr (6, CO u 0 0 0))] s.heap.size = A at hD hE ⊢
  have hA : ∀ q : Nat, s.heap.size ≤ q → A q := fun q h => by rw [← hAe]; exact Or.inr h
  have hS : va_S A s.heap s.heap [] := va_S.rf
  have hP : va_P (dC, dI) vwCl [(h0, .inr (6, CO u 0 0 0))] s.heap := hP
  have hl := lv_entry ([.ref h0, .ref o0]) (n := 3) (Nat.le_of_ble_eq_true rfl)
  rw [lg_entry_eq]
  generalize (lg_sl ([.ref h0, .ref o0]) ++ List.replicate (3 - (lg_sl ([.ref h0, .ref o0])).length) Slot.unset).toArray = ls at hl ⊢
  have hl : lv_has ls 3 [(0, .ref h0), (1, .ref o0)] := hl
  refine lv_aload_n hx hb dL_infer_0 rfl (lv_at hl 1 rfl) ?_
  refine lv_iconst (v := 0) hx hb dL_infer_1 (by decide) ?_
  refine lv_aload_n hx hb dL_infer_2 rfl (lv_at hl 0 rfl) ?_
  have hPc := hP.sub (ws' := [(h0, .inr (6, CO u 0 0 0))]) [0] rfl
  have hDc := hD.sub (ws' := [(h0, .inr (6, CO u 0 0 0))]) [0] (by decide) rfl
  have hKc := hK.sub (tys' := []) [] rfl
  have hFc := va_free (wc := [(h0, .inr (6, CO u 0 0 0))]) hD hS hA [0] rfl
  refine vx_calli (vx_runV (As := []) (rest := [.int 0, .ref o0]) ⟨hx, hb, hml, hown, hB⟩ (c_infer l hl9 dC dI h0 u sa s.heap.size) (cwV 0 hB (bgV bg273 bg274 bg275 bg89 bg276) rfl rfl rfl (by decide +kernel) ⟨Nat.le_of_ble_eq_true rfl, Nat.le_of_ble_eq_true rfl⟩) ⟨fun a U g mk q => by obtain ⟨q0, q1, qP, qK, qD, qE⟩ := q; exact ⟨q0, q1, qP, va_K.moved (u := U) (U := U.calling g mk a) (Vm.Alike.refl U.vm) qK, qD, XN.call qE⟩, va_recv hKc hPc (ci := 6) (q0 := 0) rfl rfl, fun U hU hW => ⟨rfl, by rw [hU], by rw [hU]; exact hPc, va_K.moved hW.alike hKc, hDc.weaken (fun _ _ _ _ => trivial), (by rw [hU]; exact XN.go hW hFc hE)⟩⟩ rfl rfl hl.1 rfl (lv_room (Nat.le_of_ble_eq_true rfl)) dL_infer_3 ⟨Nat.le_of_ble_eq_true rfl, Nat.le_of_ble_eq_true rfl⟩) hS (fun q _ h => hFc q h) hFc (fun q _ h => hFc q h) (fun E9 ce q9 u9 t9 H locs ht9 hvm hpx hbx hz1 hk1 hS hce hcv hcl => ?_) (fun r9 u9 t9 H1 locs ht9 hvm hw hB1 hz1 hk1 hS => hw.elim)
  subst hbx
  refine tc_catch hown (⟨0, 8, 11, 13⟩ : ExceptionTableEntry) ((vx_table (x := objectInit) B (hts _ List.mem_cons_self)).trans rfl) (by decide) (by decide) (hB _ bg277) (va_Nw.use rfl hE.1) hce hcv hcl ?_
  refine W.eq (g2 := F0 m 11 ls [.ref q9]) rfl ?_
  refine W.widen (k := 1) (n := 6) (by decide) (by decide) ?_
  have hP : va_P (dC, dI) vwCl [] H := fun k q h => by simp at h
  have hD : va_D A [] := ⟨fun i j p q h => by simp at h, fun k q h => by simp at h⟩
  have hK := hK.sub (tys' := []) [] rfl
  refine lv_astore_n (lv' := [(2, .ref q9), (0, .ref h0), (1, .ref o0)]) hx hb dL_infer_11 rfl hl (by decide) rfl (fun ls hl => ?_)
  refine lv_iconst (v := 1) hx hb dL_infer_12 (by decide) ?_
  have hP9 := hP.sub (ws' := []) [] rfl
  have hD9 := hD.sub (ws' := []) [] (by decide) rfl
  have hK9 := hK.sub (tys' := []) [] rfl
  refine W.widen (k := 1) (n := 6) (by decide) (by decide) ?_
  exact W.iret (v := 1) hx hb hr (fun t9 ht9 hW => ⟨⟨1, (), rfl, rfl, by rw [ht9]; exact hP9, va_K.moved hW.alike hK9, hD9⟩, hS.F ht9⟩) hS.2.2 dL_infer_13
set_option maxHeartbeats 4000000 in
set_option maxRecDepth 100000 in
theorem cl_run (l : Launch) (hl9 : l.stackTraces = false) (dC : Nat → ClassId) (dI : Nat → Nat → Nat) (h0 : Nat) (u : Nat → Nat) (t : Int32) (o0 : Nat) (sa : Nat) (sz : Nat) : Met l yL_run (Cond.codeWith yL_run cL_run 4 (some .int) [(0, 9, 12, 13)] :: BG) ({ frames := 7, cells := 1, slots := 6, locals := 112 }) (va_Pc [.ref h0, .int t, .ref o0] (fun U => U.heap.size = sz ∧ va_P (dC, dI) vwCl [(h0, .inr (6, CO u 0 0 0))] U.heap ∧ va_K (dC, dI) vwCl [] U ∧ va_D (fun _ => True) [(h0, .inr (6, CO u 0 0 0))] ∧ XN "java/lang/IllegalStateException" 109 "a typed term is run" sa (va_A [(h0, .inr (6, CO u 0 0 0))] sz) U U.heap)) (va_Qi (fun (r9 : Int32) (u9 : Unit) => r9 = 1) (fun (_u : Unit) (t9 : State) => va_P (dC, dI) vwCl [] t9.heap ∧ va_K (dC, dI) vwCl [] t9 ∧ va_D (va_A [(h0, .inr (6, CO u 0 0 0))] sz) []) (va_A [(h0, .inr (6, CO u 0 0 0))] sz)) 1 6 (va_A [(h0, .inr (6, CO u 0 0 0))] sz) := by
  refine va_MetW (cc := cL_run) (maxL := 4) (ret := (some .int)) (hh := [(0, 9, 12, 13)]) (by decide) rfl ?_
  intro p e s m args below meth c s₁ B hml hv
  obtain ⟨rfl, hsz, hP, hK, hD0, hE⟩ := hv
  have hx := B.exec
  have hb := B.bytes
  have hr := B.returns
  have hts := atoms_spec (ws := Cond.codeWith yL_run cL_run 4 (some .int) [(0, 9, 12, 13)] :: BG) B.pre
  have hB : ∀ w ∈ BG, w.before _ s = true := fun w h => hts w (List.mem_cons_of_mem _ h)
  have hown : s.vm.findClass RL = some m.cls := findClass_of_methodNamed B.named
  have hlocks := B.notSynchronized
  subst hsz
  have hD := hD0.self (sz := s.heap.size)
  generalize hAe : va_A [(h0, .inr (6, CO u 0 0 0))] s.heap.size = A at hD hE ⊢
  have hA : ∀ q : Nat, s.heap.size ≤ q → A q := fun q h => by rw [← hAe]; exact Or.inr h
  have hS : va_S A s.heap s.heap [] := va_S.rf
  have hP : va_P (dC, dI) vwCl [(h0, .inr (6, CO u 0 0 0))] s.heap := hP
  have hl := lv_entry ([.ref h0, .int t, .ref o0]) (n := 4) (Nat.le_of_ble_eq_true rfl)
  rw [lg_entry_eq]
  generalize (lg_sl ([.ref h0, .int t, .ref o0]) ++ List.replicate (4 - (lg_sl ([.ref h0, .int t, .ref o0])).length) Slot.unset).toArray = ls at hl ⊢
  have hl : lv_has ls 4 [(0, .ref h0), (1, .int t), (2, .ref o0)] := hl
  refine lv_aload_n hx hb dL_run_0 rfl (lv_at hl 2 rfl) ?_
  refine lv_iconst (v := 0) hx hb dL_run_1 (by decide) ?_
  refine lv_aload_n hx hb dL_run_2 rfl (lv_at hl 0 rfl) ?_
  refine lv_iload_n hx hb dL_run_3 rfl (lv_at hl 1 rfl) ?_
  have hPc := hP.sub (ws' := [(h0, .inr (6, CO u 0 0 0))]) [0] rfl
  have hDc := hD.sub (ws' := [(h0, .inr (6, CO u 0 0 0))]) [0] (by decide) rfl
  have hKc := hK.sub (tys' := []) [] rfl
  have hFc := va_free (wc := [(h0, .inr (6, CO u 0 0 0))]) hD hS hA [0] rfl
  refine vx_calli (vx_runV (As := [.int t]) (rest := [.int 0, .ref o0]) ⟨hx, hb, hml, hown, hB⟩ (c_run l hl9 dC dI h0 u t sa s.heap.size) (cwV 1 hB (bgV bg278 bg279 bg280 bg89 bg281) rfl rfl rfl (by decide +kernel) ⟨Nat.le_of_ble_eq_true rfl, Nat.le_of_ble_eq_true rfl⟩) ⟨fun a U g mk q => by obtain ⟨q0, q1, qP, qK, qD, qE⟩ := q; exact ⟨q0, q1, qP, va_K.moved (u := U) (U := U.calling g mk a) (Vm.Alike.refl U.vm) qK, qD, XN.call qE⟩, va_recv hKc hPc (ci := 6) (q0 := 0) rfl rfl, fun U hU hW => ⟨rfl, by rw [hU], by rw [hU]; exact hPc, va_K.moved hW.alike hKc, hDc.weaken (fun _ _ _ _ => trivial), (by rw [hU]; exact XN.go hW hFc hE)⟩⟩ rfl rfl hl.1 rfl (lv_room (Nat.le_of_ble_eq_true rfl)) dL_run_4 ⟨Nat.le_of_ble_eq_true rfl, Nat.le_of_ble_eq_true rfl⟩) hS (fun q _ h => hFc q h) hFc (fun q _ h => hFc q h) (fun E9 ce q9 u9 t9 H locs ht9 hvm hpx hbx hz1 hk1 hS hce hcv hcl => ?_) (fun r9 u9 t9 H1 locs ht9 hvm hw hB1 hz1 hk1 hS => hw.elim)
  subst hbx
  refine tc_catch hown (⟨0, 9, 12, 13⟩ : ExceptionTableEntry) ((vx_table (x := objectInit) B (hts _ List.mem_cons_self)).trans rfl) (by decide) (by decide) (hB _ bg277) (va_Nw.use rfl hE.1) hce hcv hcl ?_
  refine W.eq (g2 := F0 m 12 ls [.ref q9]) rfl ?_
  refine W.widen (k := 1) (n := 6) (by decide) (by decide) ?_
  have hP : va_P (dC, dI) vwCl [] H := fun k q h => by simp at h
  have hD : va_D A [] := ⟨fun i j p q h => by simp at h, fun k q h => by simp at h⟩
  have hK := hK.sub (tys' := []) [] rfl
  refine lv_astore_n (lv' := [(3, .ref q9), (0, .ref h0), (1, .int t), (2, .ref o0)]) hx hb dL_run_12 rfl hl (by decide) rfl (fun ls hl => ?_)
  refine lv_iconst (v := 1) hx hb dL_run_13 (by decide) ?_
  have hP9 := hP.sub (ws' := []) [] rfl
  have hD9 := hD.sub (ws' := []) [] (by decide) rfl
  have hK9 := hK.sub (tys' := []) [] rfl
  refine W.widen (k := 1) (n := 6) (by decide) (by decide) ?_
  exact W.iret (v := 1) hx hb hr (fun t9 ht9 hW => ⟨⟨1, (), rfl, rfl, by rw [ht9]; exact hP9, va_K.moved hW.alike hK9, hD9⟩, hS.F ht9⟩) hS.2.2 dL_run_14
set_option maxHeartbeats 4000000 in
set_option maxRecDepth 100000 in
theorem cl_typeAt (l : Launch) (hl9 : l.stackTraces = false) (dC : Nat → ClassId) (dI : Nat → Nat → Nat) (h0 : Nat) (u : Nat → Nat) (t : Int32) (o0 : Nat) (sa : Nat) (sz : Nat) : Met l yL_typeAt (Cond.codeWith yL_typeAt cL_typeAt 4 (some .int) [(0, 9, 12, 29)] :: BG) ({ frames := 7, cells := 1, slots := 6, locals := 111 }) (va_Pc [.ref h0, .int t, .ref o0] (fun U => U.heap.size = sz ∧ va_P (dC, dI) vwCl [(h0, .inr (6, CO u 0 0 0))] U.heap ∧ va_K (dC, dI) vwCl [] U ∧ va_D (fun _ => True) [(h0, .inr (6, CO u 0 0 0))] ∧ XN "java/util/NoSuchElementException" 128 "the type has no such word" sa (va_A [(h0, .inr (6, CO u 0 0 0))] sz) U U.heap)) (va_Qi (fun (r9 : Int32) (u9 : Unit) => r9 = 1) (fun (_u : Unit) (t9 : State) => va_P (dC, dI) vwCl [] t9.heap ∧ va_K (dC, dI) vwCl [] t9 ∧ va_D (va_A [(h0, .inr (6, CO u 0 0 0))] sz) []) (va_A [(h0, .inr (6, CO u 0 0 0))] sz)) 1 6 (va_A [(h0, .inr (6, CO u 0 0 0))] sz) := by
  refine va_MetW (cc := cL_typeAt) (maxL := 4) (ret := (some .int)) (hh := [(0, 9, 12, 29)]) (by decide) rfl ?_
  intro p e s m args below meth c s₁ B hml hv
  obtain ⟨rfl, hsz, hP, hK, hD0, hE⟩ := hv
  have hx := B.exec
  have hb := B.bytes
  have hr := B.returns
  have hts := atoms_spec (ws := Cond.codeWith yL_typeAt cL_typeAt 4 (some .int) [(0, 9, 12, 29)] :: BG) B.pre
  have hB : ∀ w ∈ BG, w.before _ s = true := fun w h => hts w (List.mem_cons_of_mem _ h)
  have hown : s.vm.findClass RL = some m.cls := findClass_of_methodNamed B.named
  have hlocks := B.notSynchronized
  subst hsz
  have hD := hD0.self (sz := s.heap.size)
  generalize hAe : va_A [(h0, .inr (6, CO u 0 0 0))] s.heap.size = A at hD hE ⊢
  have hA : ∀ q : Nat, s.heap.size ≤ q → A q := fun q h => by rw [← hAe]; exact Or.inr h
  have hS : va_S A s.heap s.heap [] := va_S.rf
  have hP : va_P (dC, dI) vwCl [(h0, .inr (6, CO u 0 0 0))] s.heap := hP
  have hl := lv_entry ([.ref h0, .int t, .ref o0]) (n := 4) (Nat.le_of_ble_eq_true rfl)
  rw [lg_entry_eq]
  generalize (lg_sl ([.ref h0, .int t, .ref o0]) ++ List.replicate (4 - (lg_sl ([.ref h0, .int t, .ref o0])).length) Slot.unset).toArray = ls at hl ⊢
  have hl : lv_has ls 4 [(0, .ref h0), (1, .int t), (2, .ref o0)] := hl
  refine lv_aload_n hx hb dL_typeAt_0 rfl (lv_at hl 2 rfl) ?_
  refine lv_iconst (v := 0) hx hb dL_typeAt_1 (by decide) ?_
  refine lv_aload_n hx hb dL_typeAt_2 rfl (lv_at hl 0 rfl) ?_
  refine lv_iload_n hx hb dL_typeAt_3 rfl (lv_at hl 1 rfl) ?_
  have hPc := hP.sub (ws' := [(h0, .inr (6, CO u 0 0 0))]) [0] rfl
  have hDc := hD.sub (ws' := [(h0, .inr (6, CO u 0 0 0))]) [0] (by decide) rfl
  have hKc := hK.sub (tys' := []) [] rfl
  have hFc := va_free (wc := [(h0, .inr (6, CO u 0 0 0))]) hD hS hA [0] rfl
  refine vx_calli (vx_runV (As := [.int t]) (rest := [.int 0, .ref o0]) ⟨hx, hb, hml, hown, hB⟩ (c_typeAt l hl9 dC dI h0 u t sa s.heap.size) (cwV 1 hB (bgV bg282 bg283 bg284 bg89 bg285) rfl rfl rfl (by decide +kernel) ⟨Nat.le_of_ble_eq_true rfl, Nat.le_of_ble_eq_true rfl⟩) ⟨fun a U g mk q => by obtain ⟨q0, q1, qP, qK, qD, qE⟩ := q; exact ⟨q0, q1, qP, va_K.moved (u := U) (U := U.calling g mk a) (Vm.Alike.refl U.vm) qK, qD, XN.call qE⟩, va_recv hKc hPc (ci := 6) (q0 := 0) rfl rfl, fun U hU hW => ⟨rfl, by rw [hU], by rw [hU]; exact hPc, va_K.moved hW.alike hKc, hDc.weaken (fun _ _ _ _ => trivial), (by rw [hU]; exact XN.go hW hFc hE)⟩⟩ rfl rfl hl.1 rfl (lv_room (Nat.le_of_ble_eq_true rfl)) dL_typeAt_4 ⟨Nat.le_of_ble_eq_true rfl, Nat.le_of_ble_eq_true rfl⟩) hS (fun q _ h => hFc q h) hFc (fun q _ h => hFc q h) (fun E9 ce q9 u9 t9 H locs ht9 hvm hpx hbx hz1 hk1 hS hce hcv hcl => ?_) (fun r9 u9 t9 H1 locs ht9 hvm hw hB1 hz1 hk1 hS => hw.elim)
  subst hbx
  refine tc_catch hown (⟨0, 9, 12, 29⟩ : ExceptionTableEntry) ((vx_table (x := objectInit) B (hts _ List.mem_cons_self)).trans rfl) (by decide) (by decide) (hB _ bg286) (va_Nw.use rfl hE.1) hce hcv hcl ?_
  refine W.eq (g2 := F0 m 12 ls [.ref q9]) rfl ?_
  refine W.widen (k := 1) (n := 6) (by decide) (by decide) ?_
  have hP : va_P (dC, dI) vwCl [] H := fun k q h => by simp at h
  have hD : va_D A [] := ⟨fun i j p q h => by simp at h, fun k q h => by simp at h⟩
  have hK := hK.sub (tys' := []) [] rfl
  refine lv_astore_n (lv' := [(3, .ref q9), (0, .ref h0), (1, .int t), (2, .ref o0)]) hx hb dL_typeAt_12 rfl hl (by decide) rfl (fun ls hl => ?_)
  refine lv_iconst (v := 1) hx hb dL_typeAt_13 (by decide) ?_
  have hP9 := hP.sub (ws' := []) [] rfl
  have hD9 := hD.sub (ws' := []) [] (by decide) rfl
  have hK9 := hK.sub (tys' := []) [] rfl
  refine W.widen (k := 1) (n := 6) (by decide) (by decide) ?_
  exact W.iret (v := 1) hx hb hr (fun t9 ht9 hW => ⟨⟨1, (), rfl, rfl, by rw [ht9]; exact hP9, va_K.moved hW.alike hK9, hD9⟩, hS.F ht9⟩) hS.2.2 dL_typeAt_14
set_option maxHeartbeats 4000000 in
set_option maxRecDepth 100000 in
theorem cl_outAt (l : Launch) (hl9 : l.stackTraces = false) (dC : Nat → ClassId) (dI : Nat → Nat → Nat) (h0 : Nat) (u : Nat → Nat) (t : Int32) (o0 : Nat) (sa : Nat) (sz : Nat) : Met l yL_outAt (Cond.codeWith yL_outAt cL_outAt 4 (some .int) [(0, 9, 12, 29)] :: BG) ({ frames := 7, cells := 1, slots := 6, locals := 111 }) (va_Pc [.ref h0, .int t, .ref o0] (fun U => U.heap.size = sz ∧ va_P (dC, dI) vwCl [(h0, .inr (6, CO u 0 0 0))] U.heap ∧ va_K (dC, dI) vwCl [] U ∧ va_D (fun _ => True) [(h0, .inr (6, CO u 0 0 0))] ∧ XN "java/util/NoSuchElementException" 134 "the value has no such word" sa (va_A [(h0, .inr (6, CO u 0 0 0))] sz) U U.heap)) (va_Qi (fun (r9 : Int32) (u9 : Unit) => r9 = 1) (fun (_u : Unit) (t9 : State) => va_P (dC, dI) vwCl [] t9.heap ∧ va_K (dC, dI) vwCl [] t9 ∧ va_D (va_A [(h0, .inr (6, CO u 0 0 0))] sz) []) (va_A [(h0, .inr (6, CO u 0 0 0))] sz)) 1 6 (va_A [(h0, .inr (6, CO u 0 0 0))] sz) := by
  refine va_MetW (cc := cL_outAt) (maxL := 4) (ret := (some .int)) (hh := [(0, 9, 12, 29)]) (by decide) rfl ?_
  intro p e s m args below meth c s₁ B hml hv
  obtain ⟨rfl, hsz, hP, hK, hD0, hE⟩ := hv
  have hx := B.exec
  have hb := B.bytes
  have hr := B.returns
  have hts := atoms_spec (ws := Cond.codeWith yL_outAt cL_outAt 4 (some .int) [(0, 9, 12, 29)] :: BG) B.pre
  have hB : ∀ w ∈ BG, w.before _ s = true := fun w h => hts w (List.mem_cons_of_mem _ h)
  have hown : s.vm.findClass RL = some m.cls := findClass_of_methodNamed B.named
  have hlocks := B.notSynchronized
  subst hsz
  have hD := hD0.self (sz := s.heap.size)
  generalize hAe : va_A [(h0, .inr (6, CO u 0 0 0))] s.heap.size = A at hD hE ⊢
  have hA : ∀ q : Nat, s.heap.size ≤ q → A q := fun q h => by rw [← hAe]; exact Or.inr h
  have hS : va_S A s.heap s.heap [] := va_S.rf
  have hP : va_P (dC, dI) vwCl [(h0, .inr (6, CO u 0 0 0))] s.heap := hP
  have hl := lv_entry ([.ref h0, .int t, .ref o0]) (n := 4) (Nat.le_of_ble_eq_true rfl)
  rw [lg_entry_eq]
  generalize (lg_sl ([.ref h0, .int t, .ref o0]) ++ List.replicate (4 - (lg_sl ([.ref h0, .int t, .ref o0])).length) Slot.unset).toArray = ls at hl ⊢
  have hl : lv_has ls 4 [(0, .ref h0), (1, .int t), (2, .ref o0)] := hl
  refine lv_aload_n hx hb dL_outAt_0 rfl (lv_at hl 2 rfl) ?_
  refine lv_iconst (v := 0) hx hb dL_outAt_1 (by decide) ?_
  refine lv_aload_n hx hb dL_outAt_2 rfl (lv_at hl 0 rfl) ?_
  refine lv_iload_n hx hb dL_outAt_3 rfl (lv_at hl 1 rfl) ?_
  have hPc := hP.sub (ws' := [(h0, .inr (6, CO u 0 0 0))]) [0] rfl
  have hDc := hD.sub (ws' := [(h0, .inr (6, CO u 0 0 0))]) [0] (by decide) rfl
  have hKc := hK.sub (tys' := []) [] rfl
  have hFc := va_free (wc := [(h0, .inr (6, CO u 0 0 0))]) hD hS hA [0] rfl
  refine vx_calli (vx_runV (As := [.int t]) (rest := [.int 0, .ref o0]) ⟨hx, hb, hml, hown, hB⟩ (c_outAt l hl9 dC dI h0 u t sa s.heap.size) (cwV 1 hB (bgV bg287 bg288 bg289 bg89 bg290) rfl rfl rfl (by decide +kernel) ⟨Nat.le_of_ble_eq_true rfl, Nat.le_of_ble_eq_true rfl⟩) ⟨fun a U g mk q => by obtain ⟨q0, q1, qP, qK, qD, qE⟩ := q; exact ⟨q0, q1, qP, va_K.moved (u := U) (U := U.calling g mk a) (Vm.Alike.refl U.vm) qK, qD, XN.call qE⟩, va_recv hKc hPc (ci := 6) (q0 := 0) rfl rfl, fun U hU hW => ⟨rfl, by rw [hU], by rw [hU]; exact hPc, va_K.moved hW.alike hKc, hDc.weaken (fun _ _ _ _ => trivial), (by rw [hU]; exact XN.go hW hFc hE)⟩⟩ rfl rfl hl.1 rfl (lv_room (Nat.le_of_ble_eq_true rfl)) dL_outAt_4 ⟨Nat.le_of_ble_eq_true rfl, Nat.le_of_ble_eq_true rfl⟩) hS (fun q _ h => hFc q h) hFc (fun q _ h => hFc q h) (fun E9 ce q9 u9 t9 H locs ht9 hvm hpx hbx hz1 hk1 hS hce hcv hcl => ?_) (fun r9 u9 t9 H1 locs ht9 hvm hw hB1 hz1 hk1 hS => hw.elim)
  subst hbx
  refine tc_catch hown (⟨0, 9, 12, 29⟩ : ExceptionTableEntry) ((vx_table (x := objectInit) B (hts _ List.mem_cons_self)).trans rfl) (by decide) (by decide) (hB _ bg286) (va_Nw.use rfl hE.1) hce hcv hcl ?_
  refine W.eq (g2 := F0 m 12 ls [.ref q9]) rfl ?_
  refine W.widen (k := 1) (n := 6) (by decide) (by decide) ?_
  have hP : va_P (dC, dI) vwCl [] H := fun k q h => by simp at h
  have hD : va_D A [] := ⟨fun i j p q h => by simp at h, fun k q h => by simp at h⟩
  have hK := hK.sub (tys' := []) [] rfl
  refine lv_astore_n (lv' := [(3, .ref q9), (0, .ref h0), (1, .int t), (2, .ref o0)]) hx hb dL_outAt_12 rfl hl (by decide) rfl (fun ls hl => ?_)
  refine lv_iconst (v := 1) hx hb dL_outAt_13 (by decide) ?_
  have hP9 := hP.sub (ws' := []) [] rfl
  have hD9 := hD.sub (ws' := []) [] (by decide) rfl
  have hK9 := hK.sub (tys' := []) [] rfl
  refine W.widen (k := 1) (n := 6) (by decide) (by decide) ?_
  exact W.iret (v := 1) hx hb hr (fun t9 ht9 hW => ⟨⟨1, (), rfl, rfl, by rw [ht9]; exact hP9, va_K.moved hW.alike hK9, hD9⟩, hS.F ht9⟩) hS.2.2 dL_outAt_14
set_option maxHeartbeats 4000000 in
set_option maxRecDepth 100000 in
theorem cl_token_y (l : Launch) (dC : Nat → ClassId) (dI : Nat → Nat → Nat) (h0 : Nat) (u : Nat → Nat) (cA : ClassId) (t : Int32) (o0 : Nat) (cL : ClassId) (sz : Nat) (ht : tk t) : Met l yL_token (Cond.codeWith yL_token cL_token 4 (some .int) [(0, 16, 19, 13)] :: BG) ({ frames := 2, cells := 0, slots := 0, locals := 43 }) (va_Pc [.ref h0, .int t, .ref o0] (fun U => U.heap.size = sz ∧ va_P (dC, dI) vwCl [(h0, .inr (6, CO u 0 0 0)), (u 0, .inl (cA, 60, .inl (fun _ => 0))), (o0, .inl (cL, 1, .inr (.inl (fun _ => 0))))] U.heap ∧ va_K (dC, dI) vwCl [(cA, .int), (cL, .long)] U ∧ va_D (fun _ => True) [(h0, .inr (6, CO u 0 0 0)), (u 0, .inl (cA, 60, .inl (fun _ => 0))), (o0, .inl (cL, 1, .inr (.inl (fun _ => 0))))])) (va_Qi (fun (r9 : Int32) (g : Nat → Int64) => r9 = 0 ∧ g 0 = 1) (fun (g : Nat → Int64) (t9 : State) => va_P (dC, dI) vwCl [(o0, .inl (cL, 1, .inr (.inl g)))] t9.heap ∧ va_K (dC, dI) vwCl [(cL, .long)] t9 ∧ va_D (va_A [(h0, .inr (6, CO u 0 0 0)), (u 0, .inl (cA, 60, .inl (fun _ => 0))), (o0, .inl (cL, 1, .inr (.inl (fun _ => 0))))] sz) [(o0, .inl (cL, 1, .inr (.inl g)))]) (va_A [(h0, .inr (6, CO u 0 0 0)), (u 0, .inl (cA, 60, .inl (fun _ => 0))), (o0, .inl (cL, 1, .inr (.inl (fun _ => 0))))] sz)) 0 0 (va_A [(h0, .inr (6, CO u 0 0 0)), (u 0, .inl (cA, 60, .inl (fun _ => 0))), (o0, .inl (cL, 1, .inr (.inl (fun _ => 0))))] sz) := by
  refine va_MetW (cc := cL_token) (maxL := 4) (ret := (some .int)) (hh := [(0, 16, 19, 13)]) (by decide) rfl ?_
  intro p e s m args below meth c s₁ B hml hv
  obtain ⟨rfl, hsz, hP, hK, hD0⟩ := hv
  have hx := B.exec
  have hb := B.bytes
  have hr := B.returns
  have hts := atoms_spec (ws := Cond.codeWith yL_token cL_token 4 (some .int) [(0, 16, 19, 13)] :: BG) B.pre
  have hB : ∀ w ∈ BG, w.before _ s = true := fun w h => hts w (List.mem_cons_of_mem _ h)
  have hown : s.vm.findClass RL = some m.cls := findClass_of_methodNamed B.named
  have hlocks := B.notSynchronized
  subst hsz
  have hD := hD0.self (sz := s.heap.size)
  generalize hAe : va_A [(h0, .inr (6, CO u 0 0 0)), (u 0, .inl (cA, 60, .inl (fun _ => 0))), (o0, .inl (cL, 1, .inr (.inl (fun _ => 0))))] s.heap.size = A at hD ⊢
  have hA : ∀ q : Nat, s.heap.size ≤ q → A q := fun q h => by rw [← hAe]; exact Or.inr h
  have hS : va_S A s.heap s.heap [] := va_S.rf
  have hP : va_P (dC, dI) vwCl [(h0, .inr (6, CO u 0 0 0)), (u 0, .inl (cA, 60, .inl (fun _ => 0))), (o0, .inl (cL, 1, .inr (.inl (fun _ => 0))))] s.heap := hP
  have hl := lv_entry ([.ref h0, .int t, .ref o0]) (n := 4) (Nat.le_of_ble_eq_true rfl)
  rw [lg_entry_eq]
  generalize (lg_sl ([.ref h0, .int t, .ref o0]) ++ List.replicate (4 - (lg_sl ([.ref h0, .int t, .ref o0])).length) Slot.unset).toArray = ls at hl ⊢
  have hl : lv_has ls 4 [(0, .ref h0), (1, .int t), (2, .ref o0)] := hl
  refine lv_aload_n hx hb dL_token_0 rfl (lv_at hl 2 rfl) ?_
  refine lv_iconst (v := 0) hx hb dL_token_1 (by decide) ?_
  refine lv_aload_n hx hb dL_token_2 rfl (lv_at hl 0 rfl) ?_
  refine lv_iload_n hx hb dL_token_3 rfl (lv_at hl 1 rfl) ?_
  have hPc := hP.sub (ws' := [(h0, .inr (6, CO u 0 0 0)), (u 0, .inl (cA, 60, .inl (fun _ => 0)))]) [0, 1] rfl
  have hDc := hD.sub (ws' := [(h0, .inr (6, CO u 0 0 0)), (u 0, .inl (cA, 60, .inl (fun _ => 0)))]) [0, 1] (by decide) rfl
  have hKc := hK.sub (tys' := [(cA, .int)]) [0] rfl
  have hFc := va_free (wc := [(h0, .inr (6, CO u 0 0 0)), (u 0, .inl (cA, 60, .inl (fun _ => 0)))]) hD hS hA [0, 1] rfl
  refine va_calli (va_runV (As := [.int t]) (rest := [.int 0, .ref o0]) ⟨hx, hb, hml, hown, hB⟩ (c_token_y l dC dI h0 u cA t s.heap.size ht) (cwV 1 hB (bgV bg291 bg292 bg293 bg89 bg294) rfl rfl rfl (by decide +kernel) ⟨Nat.le_of_ble_eq_true rfl, Nat.le_of_ble_eq_true rfl⟩) ⟨fun a U g mk q => by obtain ⟨q0, q1, qP, qK, qD⟩ := q; exact ⟨q0, q1, qP, va_K.moved (u := U) (U := U.calling g mk a) (Vm.Alike.refl U.vm) qK, qD⟩, va_recv hKc hPc (ci := 6) (q0 := 0) rfl rfl, fun U hU hW => ⟨rfl, by rw [hU], by rw [hU]; exact hPc, va_K.moved hW.alike hKc, hDc.weaken (fun _ _ _ _ => trivial)⟩⟩ rfl rfl hl.1 rfl (lv_room (Nat.le_of_ble_eq_true rfl)) dL_token_4 ⟨Nat.le_of_ble_eq_true rfl, Nat.le_of_ble_eq_true rfl⟩) hS (fun q _ h => hFc q h) hFc (fun r9 u9 t9 H1 locs ht9 hvm hw hB1 hz1 hk1 hS => ?_)
  try dsimp only at hB1 hw
  obtain ⟨hP1, hK1, hD1⟩ := hB1
  rw [ht9] at hP1
  have hK1 := va_K.moved hvm.symm hK1
  obtain rfl := hw
  obtain ⟨hP, hD⟩ := va_join (wr := [(o0, .inl (cL, 1, .inr (.inl (fun _ => 0))))]) (w1 := []) hP hD [0, 1] [2] rfl rfl (by decide) (by decide) hk1 hFc hP1 hD1
  have hK := (hK.sub (tys' := [(cL, .long)]) [1] rfl).app hK1
  generalize H1 = H at hP hS ⊢
  have hP : va_P (dC, dI) vwCl [(o0, .inl (cL, 1, .inr (.inl (fun _ => 0))))] H := hP
  have hD : va_D A [(o0, .inl (cL, 1, .inr (.inl (fun _ => 0))))] := hD
  have hK : va_K (dC, dI) vwCl [(cL, .long)] s := hK
  refine lv_if_eq (tgt := 14) hx hb dL_token_7 (by decide) (fun c9 => absurd c9 (by decide)) (fun _ => ?_)
  refine lv_lconst (v := 1) hx hb dL_token_10 (by decide) ?_
  refine lv_goto (tgt := 15) hx hb dL_token_11 (by decide) ?_
  refine va_last hx hb hK hP hD hS 0 0 rfl rfl (i := 0) (x := 1) (by rw [vp_in_iff]; decide) dL_token_15 (fun H locs hP hD hS => ?_)
  obtain ⟨f1, ef1⟩ : ∃ z, z = vp_updL (fun _ => 0) (0 : Int32).toNatClampNeg 1 := ⟨_, rfl⟩
  rw [← ef1] at hP hD
  have hP : va_P (dC, dI) vwCl [(o0, .inl (cL, 1, .inr (.inl f1)))] H := hP
  have hD : va_D A [(o0, .inl (cL, 1, .inr (.inl f1)))] := hD
  refine lv_goto (tgt := 22) hx hb dL_token_16 (by decide) ?_
  refine lv_iconst (v := 0) hx hb dL_token_22 (by decide) ?_
  have hP9 := hP.sub (ws' := [(o0, .inl (cL, 1, .inr (.inl f1)))]) [0] rfl
  have hD9 := hD.sub (ws' := [(o0, .inl (cL, 1, .inr (.inl f1)))]) [0] (by decide) rfl
  have hK9 := hK.sub (tys' := [(cL, .long)]) [0] rfl
  refine W.widen (k := 0) (n := 0) (by decide) (by decide) ?_
  exact W.iret (v := 0) hx hb hr (fun t9 ht9 hW => ⟨⟨0, f1, rfl, ⟨rfl, (by rw [ef1, show (0 : Int32).toNatClampNeg = 0 by decide]; exact pk_uLs)⟩, by rw [ht9]; exact hP9, va_K.moved hW.alike hK9, hD9⟩, hS.F ht9⟩) hS.2.2 dL_token_23
set_option maxHeartbeats 4000000 in
set_option maxRecDepth 100000 in
theorem cl_token_n (l : Launch) (dC : Nat → ClassId) (dI : Nat → Nat → Nat) (h0 : Nat) (u : Nat → Nat) (cA : ClassId) (t : Int32) (o0 : Nat) (cL : ClassId) (sz : Nat) (ht : ¬ tk t) : Met l yL_token (Cond.codeWith yL_token cL_token 4 (some .int) [(0, 16, 19, 13)] :: BG) ({ frames := 2, cells := 0, slots := 0, locals := 41 }) (va_Pc [.ref h0, .int t, .ref o0] (fun U => U.heap.size = sz ∧ va_P (dC, dI) vwCl [(h0, .inr (6, CO u 0 0 0)), (u 0, .inl (cA, 60, .inl (fun _ => 0))), (o0, .inl (cL, 1, .inr (.inl (fun _ => 0))))] U.heap ∧ va_K (dC, dI) vwCl [(cA, .int), (cL, .long)] U ∧ va_D (fun _ => True) [(h0, .inr (6, CO u 0 0 0)), (u 0, .inl (cA, 60, .inl (fun _ => 0))), (o0, .inl (cL, 1, .inr (.inl (fun _ => 0))))])) (va_Qi (fun (r9 : Int32) (g : Nat → Int64) => r9 = 0 ∧ g 0 = 0) (fun (g : Nat → Int64) (t9 : State) => va_P (dC, dI) vwCl [(o0, .inl (cL, 1, .inr (.inl g)))] t9.heap ∧ va_K (dC, dI) vwCl [(cL, .long)] t9 ∧ va_D (va_A [(h0, .inr (6, CO u 0 0 0)), (u 0, .inl (cA, 60, .inl (fun _ => 0))), (o0, .inl (cL, 1, .inr (.inl (fun _ => 0))))] sz) [(o0, .inl (cL, 1, .inr (.inl g)))]) (va_A [(h0, .inr (6, CO u 0 0 0)), (u 0, .inl (cA, 60, .inl (fun _ => 0))), (o0, .inl (cL, 1, .inr (.inl (fun _ => 0))))] sz)) 0 0 (va_A [(h0, .inr (6, CO u 0 0 0)), (u 0, .inl (cA, 60, .inl (fun _ => 0))), (o0, .inl (cL, 1, .inr (.inl (fun _ => 0))))] sz) := by
  refine va_MetW (cc := cL_token) (maxL := 4) (ret := (some .int)) (hh := [(0, 16, 19, 13)]) (by decide) rfl ?_
  intro p e s m args below meth c s₁ B hml hv
  obtain ⟨rfl, hsz, hP, hK, hD0⟩ := hv
  have hx := B.exec
  have hb := B.bytes
  have hr := B.returns
  have hts := atoms_spec (ws := Cond.codeWith yL_token cL_token 4 (some .int) [(0, 16, 19, 13)] :: BG) B.pre
  have hB : ∀ w ∈ BG, w.before _ s = true := fun w h => hts w (List.mem_cons_of_mem _ h)
  have hown : s.vm.findClass RL = some m.cls := findClass_of_methodNamed B.named
  have hlocks := B.notSynchronized
  subst hsz
  have hD := hD0.self (sz := s.heap.size)
  generalize hAe : va_A [(h0, .inr (6, CO u 0 0 0)), (u 0, .inl (cA, 60, .inl (fun _ => 0))), (o0, .inl (cL, 1, .inr (.inl (fun _ => 0))))] s.heap.size = A at hD ⊢
  have hA : ∀ q : Nat, s.heap.size ≤ q → A q := fun q h => by rw [← hAe]; exact Or.inr h
  have hS : va_S A s.heap s.heap [] := va_S.rf
  have hP : va_P (dC, dI) vwCl [(h0, .inr (6, CO u 0 0 0)), (u 0, .inl (cA, 60, .inl (fun _ => 0))), (o0, .inl (cL, 1, .inr (.inl (fun _ => 0))))] s.heap := hP
  have hl := lv_entry ([.ref h0, .int t, .ref o0]) (n := 4) (Nat.le_of_ble_eq_true rfl)
  rw [lg_entry_eq]
  generalize (lg_sl ([.ref h0, .int t, .ref o0]) ++ List.replicate (4 - (lg_sl ([.ref h0, .int t, .ref o0])).length) Slot.unset).toArray = ls at hl ⊢
  have hl : lv_has ls 4 [(0, .ref h0), (1, .int t), (2, .ref o0)] := hl
  refine lv_aload_n hx hb dL_token_0 rfl (lv_at hl 2 rfl) ?_
  refine lv_iconst (v := 0) hx hb dL_token_1 (by decide) ?_
  refine lv_aload_n hx hb dL_token_2 rfl (lv_at hl 0 rfl) ?_
  refine lv_iload_n hx hb dL_token_3 rfl (lv_at hl 1 rfl) ?_
  have hPc := hP.sub (ws' := [(h0, .inr (6, CO u 0 0 0)), (u 0, .inl (cA, 60, .inl (fun _ => 0)))]) [0, 1] rfl
  have hDc := hD.sub (ws' := [(h0, .inr (6, CO u 0 0 0)), (u 0, .inl (cA, 60, .inl (fun _ => 0)))]) [0, 1] (by decide) rfl
  have hKc := hK.sub (tys' := [(cA, .int)]) [0] rfl
  have hFc := va_free (wc := [(h0, .inr (6, CO u 0 0 0)), (u 0, .inl (cA, 60, .inl (fun _ => 0)))]) hD hS hA [0, 1] rfl
  refine va_calli (va_runV (As := [.int t]) (rest := [.int 0, .ref o0]) ⟨hx, hb, hml, hown, hB⟩ (c_token_n l dC dI h0 u cA t s.heap.size ht) (cwV 1 hB (bgV bg291 bg292 bg293 bg89 bg294) rfl rfl rfl (by decide +kernel) ⟨Nat.le_of_ble_eq_true rfl, Nat.le_of_ble_eq_true rfl⟩) ⟨fun a U g mk q => by obtain ⟨q0, q1, qP, qK, qD⟩ := q; exact ⟨q0, q1, qP, va_K.moved (u := U) (U := U.calling g mk a) (Vm.Alike.refl U.vm) qK, qD⟩, va_recv hKc hPc (ci := 6) (q0 := 0) rfl rfl, fun U hU hW => ⟨rfl, by rw [hU], by rw [hU]; exact hPc, va_K.moved hW.alike hKc, hDc.weaken (fun _ _ _ _ => trivial)⟩⟩ rfl rfl hl.1 rfl (lv_room (Nat.le_of_ble_eq_true rfl)) dL_token_4 ⟨Nat.le_of_ble_eq_true rfl, Nat.le_of_ble_eq_true rfl⟩) hS (fun q _ h => hFc q h) hFc (fun r9 u9 t9 H1 locs ht9 hvm hw hB1 hz1 hk1 hS => ?_)
  try dsimp only at hB1 hw
  obtain ⟨hP1, hK1, hD1⟩ := hB1
  rw [ht9] at hP1
  have hK1 := va_K.moved hvm.symm hK1
  obtain rfl := hw
  obtain ⟨hP, hD⟩ := va_join (wr := [(o0, .inl (cL, 1, .inr (.inl (fun _ => 0))))]) (w1 := []) hP hD [0, 1] [2] rfl rfl (by decide) (by decide) hk1 hFc hP1 hD1
  have hK := (hK.sub (tys' := [(cL, .long)]) [1] rfl).app hK1
  generalize H1 = H at hP hS ⊢
  have hP : va_P (dC, dI) vwCl [(o0, .inl (cL, 1, .inr (.inl (fun _ => 0))))] H := hP
  have hD : va_D A [(o0, .inl (cL, 1, .inr (.inl (fun _ => 0))))] := hD
  have hK : va_K (dC, dI) vwCl [(cL, .long)] s := hK
  refine lv_if_eq (tgt := 14) hx hb dL_token_7 (by decide) (fun _ => ?_) (fun c9 => absurd c9 (by decide))
  refine lv_lconst (v := 0) hx hb dL_token_14 (by decide) ?_
  refine va_last hx hb hK hP hD hS 0 0 rfl rfl (i := 0) (x := 0) (by rw [vp_in_iff]; decide) dL_token_15 (fun H locs hP hD hS => ?_)
  obtain ⟨f1, ef1⟩ : ∃ z, z = vp_updL (fun _ => 0) (0 : Int32).toNatClampNeg 0 := ⟨_, rfl⟩
  rw [← ef1] at hP hD
  have hP : va_P (dC, dI) vwCl [(o0, .inl (cL, 1, .inr (.inl f1)))] H := hP
  have hD : va_D A [(o0, .inl (cL, 1, .inr (.inl f1)))] := hD
  refine lv_goto (tgt := 22) hx hb dL_token_16 (by decide) ?_
  refine lv_iconst (v := 0) hx hb dL_token_22 (by decide) ?_
  have hP9 := hP.sub (ws' := [(o0, .inl (cL, 1, .inr (.inl f1)))]) [0] rfl
  have hD9 := hD.sub (ws' := [(o0, .inl (cL, 1, .inr (.inl f1)))]) [0] (by decide) rfl
  have hK9 := hK.sub (tys' := [(cL, .long)]) [0] rfl
  refine W.widen (k := 0) (n := 0) (by decide) (by decide) ?_
  exact W.iret (v := 0) hx hb hr (fun t9 ht9 hW => ⟨⟨0, f1, rfl, ⟨rfl, (by rw [ef1, show (0 : Int32).toNatClampNeg = 0 by decide]; exact pk_uLs)⟩, by rw [ht9]; exact hP9, va_K.moved hW.alike hK9, hD9⟩, hS.F ht9⟩) hS.2.2 dL_token_23
set_option maxHeartbeats 4000000 in
set_option maxRecDepth 100000 in
theorem cl_parse (l : Launch) (dC : Nat → ClassId) (dI : Nat → Nat → Nat) (h0 : Nat) (u : Nat → Nat) (v : Nat → Nat) (o0 : Nat) (cL : ClassId) (sz : Nat) : Met l yL_parse (Cond.codeWith yL_parse cL_parse 3 (some .int) [(0, 8, 11, 13)] :: BG) ({ frames := 11, cells := 0, slots := 0, locals := 247 }) (va_Pc [.ref h0, .ref o0] (fun U => U.heap.size = sz ∧ va_P (dC, dI) vwCl [(h0, .inr (6, CO u 0 0 0)), (u 1, .inr (2, [.ref (v 0), .ref (v 1), .ref (v 2), .ref (v 3), .ref (v 4), .int 0])), (u 2, .inr (1, [.ref (u 0), .ref (u 1), .int 0, .int 0, .int 0, .int (-1)])), (o0, .inl (cL, 1, .inr (.inl (fun _ => 0))))] U.heap ∧ va_K (dC, dI) vwCl [(cL, .long)] U ∧ va_D (fun _ => True) [(h0, .inr (6, CO u 0 0 0)), (u 1, .inr (2, [.ref (v 0), .ref (v 1), .ref (v 2), .ref (v 3), .ref (v 4), .int 0])), (u 2, .inr (1, [.ref (u 0), .ref (u 1), .int 0, .int 0, .int 0, .int (-1)])), (o0, .inl (cL, 1, .inr (.inl (fun _ => 0))))] ∧ va_Nw NEST U)) (va_Qi (fun (r9 : Int32) (g : Nat → Int64) => r9 = 0 ∧ g 0 = 1) (fun (g : Nat → Int64) (t9 : State) => va_P (dC, dI) vwCl [(o0, .inl (cL, 1, .inr (.inl g)))] t9.heap ∧ va_K (dC, dI) vwCl [(cL, .long)] t9 ∧ va_D (va_A [(h0, .inr (6, CO u 0 0 0)), (u 1, .inr (2, [.ref (v 0), .ref (v 1), .ref (v 2), .ref (v 3), .ref (v 4), .int 0])), (u 2, .inr (1, [.ref (u 0), .ref (u 1), .int 0, .int 0, .int 0, .int (-1)])), (o0, .inl (cL, 1, .inr (.inl (fun _ => 0))))] sz) [(o0, .inl (cL, 1, .inr (.inl g)))]) (va_A [(h0, .inr (6, CO u 0 0 0)), (u 1, .inr (2, [.ref (v 0), .ref (v 1), .ref (v 2), .ref (v 3), .ref (v 4), .int 0])), (u 2, .inr (1, [.ref (u 0), .ref (u 1), .int 0, .int 0, .int 0, .int (-1)])), (o0, .inl (cL, 1, .inr (.inl (fun _ => 0))))] sz)) 0 0 (va_A [(h0, .inr (6, CO u 0 0 0)), (u 1, .inr (2, [.ref (v 0), .ref (v 1), .ref (v 2), .ref (v 3), .ref (v 4), .int 0])), (u 2, .inr (1, [.ref (u 0), .ref (u 1), .int 0, .int 0, .int 0, .int (-1)])), (o0, .inl (cL, 1, .inr (.inl (fun _ => 0))))] sz) := by
  refine va_MetW (cc := cL_parse) (maxL := 3) (ret := (some .int)) (hh := [(0, 8, 11, 13)]) (by decide) rfl ?_
  intro p e s m args below meth c s₁ B hml hv
  obtain ⟨rfl, hsz, hP, hK, hD0, hE⟩ := hv
  have hx := B.exec
  have hb := B.bytes
  have hr := B.returns
  have hts := atoms_spec (ws := Cond.codeWith yL_parse cL_parse 3 (some .int) [(0, 8, 11, 13)] :: BG) B.pre
  have hB : ∀ w ∈ BG, w.before _ s = true := fun w h => hts w (List.mem_cons_of_mem _ h)
  have hown : s.vm.findClass RL = some m.cls := findClass_of_methodNamed B.named
  have hlocks := B.notSynchronized
  subst hsz
  have hD := hD0.self (sz := s.heap.size)
  generalize hAe : va_A [(h0, .inr (6, CO u 0 0 0)), (u 1, .inr (2, [.ref (v 0), .ref (v 1), .ref (v 2), .ref (v 3), .ref (v 4), .int 0])), (u 2, .inr (1, [.ref (u 0), .ref (u 1), .int 0, .int 0, .int 0, .int (-1)])), (o0, .inl (cL, 1, .inr (.inl (fun _ => 0))))] s.heap.size = A at hD ⊢
  have hA : ∀ q : Nat, s.heap.size ≤ q → A q := fun q h => by rw [← hAe]; exact Or.inr h
  have hS : va_S A s.heap s.heap [] := va_S.rf
  have hP : va_P (dC, dI) vwCl [(h0, .inr (6, CO u 0 0 0)), (u 1, .inr (2, [.ref (v 0), .ref (v 1), .ref (v 2), .ref (v 3), .ref (v 4), .int 0])), (u 2, .inr (1, [.ref (u 0), .ref (u 1), .int 0, .int 0, .int 0, .int (-1)])), (o0, .inl (cL, 1, .inr (.inl (fun _ => 0))))] s.heap := hP
  have hl := lv_entry ([.ref h0, .ref o0]) (n := 3) (Nat.le_of_ble_eq_true rfl)
  rw [lg_entry_eq]
  generalize (lg_sl ([.ref h0, .ref o0]) ++ List.replicate (3 - (lg_sl ([.ref h0, .ref o0])).length) Slot.unset).toArray = ls at hl ⊢
  have hl : lv_has ls 3 [(0, .ref h0), (1, .ref o0)] := hl
  refine lv_aload_n hx hb dL_parse_0 rfl (lv_at hl 1 rfl) ?_
  refine lv_iconst (v := 0) hx hb dL_parse_1 (by decide) ?_
  refine lv_aload_n hx hb dL_parse_2 rfl (lv_at hl 0 rfl) ?_
  have hPc := hP.sub (ws' := [(h0, .inr (6, CO u 0 0 0)), (u 1, .inr (2, [.ref (v 0), .ref (v 1), .ref (v 2), .ref (v 3), .ref (v 4), .int 0])), (u 2, .inr (1, [.ref (u 0), .ref (u 1), .int 0, .int 0, .int 0, .int (-1)]))]) [0, 1, 2] rfl
  have hDc := hD.sub (ws' := [(h0, .inr (6, CO u 0 0 0)), (u 1, .inr (2, [.ref (v 0), .ref (v 1), .ref (v 2), .ref (v 3), .ref (v 4), .int 0])), (u 2, .inr (1, [.ref (u 0), .ref (u 1), .int 0, .int 0, .int 0, .int (-1)]))]) [0, 1, 2] (by decide) rfl
  have hKc := hK.sub (tys' := []) [] rfl
  have hFc := va_free (wc := [(h0, .inr (6, CO u 0 0 0)), (u 1, .inr (2, [.ref (v 0), .ref (v 1), .ref (v 2), .ref (v 3), .ref (v 4), .int 0])), (u 2, .inr (1, [.ref (u 0), .ref (u 1), .int 0, .int 0, .int 0, .int (-1)]))]) hD hS hA [0, 1, 2] rfl
  refine va_calli (va_runV (As := []) (rest := [.int 0, .ref o0]) ⟨hx, hb, hml, hown, hB⟩ (c_parse l dC dI h0 u v s.heap.size) (cwV 0 hB (bgV bg295 bg296 bg297 bg89 bg298) rfl rfl rfl (by decide +kernel) ⟨Nat.le_of_ble_eq_true rfl, Nat.le_of_ble_eq_true rfl⟩) ⟨fun a U g mk q => by obtain ⟨q0, q1, qP, qK, qD, qE⟩ := q; exact ⟨q0, q1, qP, va_K.moved (u := U) (U := U.calling g mk a) (Vm.Alike.refl U.vm) qK, qD, va_Nw.same (u := U) rfl rfl qE⟩, va_recv hKc hPc (ci := 6) (q0 := 0) rfl rfl, fun U hU hW => ⟨rfl, by rw [hU], by rw [hU]; exact hPc, va_K.moved hW.alike hKc, hDc.weaken (fun _ _ _ _ => trivial), va_Nw.warmM hW hE⟩⟩ rfl rfl hl.1 rfl (lv_room (Nat.le_of_ble_eq_true rfl)) dL_parse_3 ⟨Nat.le_of_ble_eq_true rfl, Nat.le_of_ble_eq_true rfl⟩) hS (fun q _ h => hFc q h) hFc (fun r9 u9 t9 H1 locs ht9 hvm hw hB1 hz1 hk1 hS => ?_)
  try dsimp only at hB1 hw
  obtain ⟨hP1, hK1, hD1⟩ := hB1
  rw [ht9] at hP1
  have hK1 := va_K.moved hvm.symm hK1
  obtain rfl := hw
  obtain ⟨hP, hD⟩ := va_join (wr := [(o0, .inl (cL, 1, .inr (.inl (fun _ => 0))))]) (w1 := []) hP hD [0, 1, 2] [3] rfl rfl (by decide) (by decide) hk1 hFc hP1 hD1
  have hK := (hK.sub (tys' := [(cL, .long)]) [0] rfl).app hK1
  generalize H1 = H at hP hS ⊢
  have hP : va_P (dC, dI) vwCl [(o0, .inl (cL, 1, .inr (.inl (fun _ => 0))))] H := hP
  have hD : va_D A [(o0, .inl (cL, 1, .inr (.inl (fun _ => 0))))] := hD
  have hK : va_K (dC, dI) vwCl [(cL, .long)] s := hK
  refine lv_i2l (v := 1) hx hb dL_parse_6 (by decide) ?_
  refine va_last hx hb hK hP hD hS 0 0 rfl rfl (i := 0) (x := 1) (by rw [vp_in_iff]; decide) dL_parse_7 (fun H locs hP hD hS => ?_)
  obtain ⟨f1, ef1⟩ : ∃ z, z = vp_updL (fun _ => 0) (0 : Int32).toNatClampNeg 1 := ⟨_, rfl⟩
  rw [← ef1] at hP hD
  have hP : va_P (dC, dI) vwCl [(o0, .inl (cL, 1, .inr (.inl f1)))] H := hP
  have hD : va_D A [(o0, .inl (cL, 1, .inr (.inl f1)))] := hD
  refine lv_goto (tgt := 14) hx hb dL_parse_8 (by decide) ?_
  refine lv_iconst (v := 0) hx hb dL_parse_14 (by decide) ?_
  have hP9 := hP.sub (ws' := [(o0, .inl (cL, 1, .inr (.inl f1)))]) [0] rfl
  have hD9 := hD.sub (ws' := [(o0, .inl (cL, 1, .inr (.inl f1)))]) [0] (by decide) rfl
  have hK9 := hK.sub (tys' := [(cL, .long)]) [0] rfl
  refine W.widen (k := 0) (n := 0) (by decide) (by decide) ?_
  exact W.iret (v := 0) hx hb hr (fun t9 ht9 hW => ⟨⟨0, f1, rfl, ⟨rfl, (by rw [ef1, show (0 : Int32).toNatClampNeg = 0 by decide]; exact pk_uLs)⟩, by rw [ht9]; exact hP9, va_K.moved hW.alike hK9, hD9⟩, hS.F ht9⟩) hS.2.2 dL_parse_15
