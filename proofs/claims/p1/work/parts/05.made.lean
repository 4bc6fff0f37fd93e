set_option maxHeartbeats 4000000 in
set_option maxRecDepth 100000 in
/-- Words(100) -/
theorem c_Words100 (l : Launch) (dC : Nat → ClassId) (dI : Nat → Nat → Nat) (h0 : Nat) (sz : Nat) : Met l yX5_init (Cond.code yX5_init cX5_init 2 none :: BG) ({ frames := 1, cells := 1, slots := 100, locals := 12 }) (va_Pc [.ref h0, .int 100] (fun U => U.heap.size = sz ∧ va_P (dC, dI) vwCl [(h0, .inr (5, [.null, .int 0]))] U.heap ∧ va_K (dC, dI) vwCl [] U ∧ va_D (fun _ => True) [(h0, .inr (5, [.null, .int 0]))])) (va_Qv (fun (u9 : Unit) => True) (fun (_u : Unit) (t9 : State) => va_P (dC, dI) vwCl [] t9.heap ∧ va_K (dC, dI) vwCl [] t9 ∧ va_D (va_A [(h0, .inr (5, [.null, .int 0]))] sz) []) (va_A [(h0, .inr (5, [.null, .int 0]))] sz)) 1 100 (va_A [(h0, .inr (5, [.null, .int 0]))] sz) := by
  refine Met.ofW (cc := cX5_init) (maxL := 2) (ret := none) (by decide) rfl ?_
  intro p e s m args below meth c s₁ B hml hv
  obtain ⟨rfl, hsz, hP, hK, hD0⟩ := hv
  have hx := B.exec
  have hb := B.bytes
  have hr := B.returns
  have hts := atoms_spec (ws := Cond.code yX5_init cX5_init 2 none :: BG) B.pre
  have hB : ∀ w ∈ BG, w.before _ s = true := fun w h => hts w (List.mem_cons_of_mem _ h)
  have hown : s.vm.findClass RX5 = some m.cls := findClass_of_methodNamed B.named
  have hlocks := B.notSynchronized
  have hin : meth.name = "<init>" := (name_of_methodNamed B.named B.method).1
  subst hsz
  have hD := hD0.self (sz := s.heap.size)
  generalize hAe : va_A [(h0, .inr (5, [.null, .int 0]))] s.heap.size = A at hD ⊢
  have hA : ∀ q : Nat, s.heap.size ≤ q → A q := fun q h => by rw [← hAe]; exact Or.inr h
  have hS : va_S A s.heap s.heap [] := va_S.rf
  have hP : va_P (dC, dI) vwCl [(h0, .inr (5, [.null, .int 0]))] s.heap := hP
  have hl := lv_entry ([.ref h0, .int 100]) (n := 2) (Nat.le_of_ble_eq_true rfl)
  rw [lg_entry_eq]
  generalize (lg_sl ([.ref h0, .int 100]) ++ List.replicate (2 - (lg_sl ([.ref h0, .int 100])).length) Slot.unset).toArray = ls at hl ⊢
  have hl : lv_has ls 2 [(0, .ref h0), (1, .int 100)] := hl
  refine lv_aload_n hx hb dX5_init_0 rfl (lv_at hl 0 rfl) ?_
  refine W.objInit hx hb hown (hB _ bg0) (hB _ bg1) (hB _ bg2) rfl (by rw [hml]; exact hl.1) rfl dX5_init_1 (Nat.le_of_ble_eq_true rfl) (Nat.le_of_ble_eq_true rfl) ?_
  refine W.eq (g2 := F0 m 4 ls []) rfl ?_
  refine lv_aload_n hx hb dX5_init_4 rfl (lv_at hl 0 rfl) ?_
  refine lv_iload_n hx hb dX5_init_5 rfl (lv_at hl 1 rfl) ?_
  refine lv_if_le (tgt := 13) hx hb dX5_init_6 (by decide) (fun c9 => absurd c9 (by decide)) (fun _ => ?_)
  refine lv_iload_n hx hb dX5_init_9 rfl (lv_at hl 1 rfl) ?_
  refine lv_goto (tgt := 14) hx hb dX5_init_10 (by decide) ?_
  refine va_newa (atype := .int) (N' := 100) (a0 := (100, .inl (fun _ => 0))) (ty := .int) (n := 100) hx hb (hB _ bg3) rfl hK hP hD hS hA (fun _ => rfl) (by decide) (by decide) (by decide) (Nat.le_of_ble_eq_true rfl) (Nat.le_of_ble_eq_true rfl) dX5_init_14 (fun q1 cA2 H hK hP hD hS => ?_)
  have hP : va_P (dC, dI) vwCl [(h0, .inr (5, [.null, .int 0])), (q1, .inl (cA2, 100, .inl (fun _ => 0)))] H := hP
  have hD : va_D A [(h0, .inr (5, [.null, .int 0])), (q1, .inl (cA2, 100, .inl (fun _ => 0)))] := hD
  have hK : va_K (dC, dI) vwCl [(cA2, .int)] s := hK
  refine W.widen (k := 1) (n := 100) (by decide) (by decide) ?_
  refine va_putF (D := (dC, dI)) (ci := 5) (v := .ref q1) (ty := .array .int) (C := RX5) (T := TX5) (N := 2) hx hb hB inB5 tyX5 tyX5_ok nmX5 hown hK hP hD hS 0 rfl rfl 0 (by decide) (hB _ bg4) (fun _ h9 => h9) rfl hin rfl (by decide +kernel) rfl rfl (Nat.le_of_ble_eq_true rfl) dX5_init_16 (fun H locs hP hD hS => ?_)
  have hP : va_P (dC, dI) vwCl [(h0, .inr (5, [.ref q1, .int 0])), (q1, .inl (cA2, 100, .inl (fun _ => 0)))] H := hP
  have hD : va_D A [(h0, .inr (5, [.ref q1, .int 0])), (q1, .inl (cA2, 100, .inl (fun _ => 0)))] := hD
  have hP9 := hP.sub (ws' := []) [] rfl
  have hD9 := hD.sub (ws' := []) [] (by decide) rfl
  have hK9 := hK.sub (tys' := []) [] rfl
  refine W.widen (k := 1) (n := 100) (by decide) (by decide) ?_
  exact W.vret hx hb hr (fun t9 ht9 hW => ⟨⟨(), rfl, trivial, by rw [ht9]; exact hP9, va_K.moved hW.alike hK9, hD9⟩, hS.F ht9⟩) hS.2.2 dX5_init_19
set_option maxHeartbeats 4000000 in
set_option maxRecDepth 100000 in
/-- Words(24) -/
theorem c_Words24 (l : Launch) (dC : Nat → ClassId) (dI : Nat → Nat → Nat) (h0 : Nat) (sz : Nat) : Met l yX5_init (Cond.code yX5_init cX5_init 2 none :: BG) ({ frames := 1, cells := 1, slots := 24, locals := 12 }) (va_Pc [.ref h0, .int 24] (fun U => U.heap.size = sz ∧ va_P (dC, dI) vwCl [(h0, .inr (5, [.null, .int 0]))] U.heap ∧ va_K (dC, dI) vwCl [] U ∧ va_D (fun _ => True) [(h0, .inr (5, [.null, .int 0]))])) (va_Qv (fun (u9 : Unit) => True) (fun (_u : Unit) (t9 : State) => va_P (dC, dI) vwCl [] t9.heap ∧ va_K (dC, dI) vwCl [] t9 ∧ va_D (va_A [(h0, .inr (5, [.null, .int 0]))] sz) []) (va_A [(h0, .inr (5, [.null, .int 0]))] sz)) 1 24 (va_A [(h0, .inr (5, [.null, .int 0]))] sz) := by
  refine Met.ofW (cc := cX5_init) (maxL := 2) (ret := none) (by decide) rfl ?_
  intro p e s m args below meth c s₁ B hml hv
  obtain ⟨rfl, hsz, hP, hK, hD0⟩ := hv
  have hx := B.exec
  have hb := B.bytes
  have hr := B.returns
  have hts := atoms_spec (ws := Cond.code yX5_init cX5_init 2 none :: BG) B.pre
  have hB : ∀ w ∈ BG, w.before _ s = true := fun w h => hts w (List.mem_cons_of_mem _ h)
  have hown : s.vm.findClass RX5 = some m.cls := findClass_of_methodNamed B.named
  have hlocks := B.notSynchronized
  have hin : meth.name = "<init>" := (name_of_methodNamed B.named B.method).1
  subst hsz
  have hD := hD0.self (sz := s.heap.size)
  generalize hAe : va_A [(h0, .inr (5, [.null, .int 0]))] s.heap.size = A at hD ⊢
  have hA : ∀ q : Nat, s.heap.size ≤ q → A q := fun q h => by rw [← hAe]; exact Or.inr h
  have hS : va_S A s.heap s.heap [] := va_S.rf
  have hP : va_P (dC, dI) vwCl [(h0, .inr (5, [.null, .int 0]))] s.heap := hP
  have hl := lv_entry ([.ref h0, .int 24]) (n := 2) (Nat.le_of_ble_eq_true rfl)
  rw [lg_entry_eq]
  generalize (lg_sl ([.ref h0, .int 24]) ++ List.replicate (2 - (lg_sl ([.ref h0, .int 24])).length) Slot.unset).toArray = ls at hl ⊢
  have hl : lv_has ls 2 [(0, .ref h0), (1, .int 24)] := hl
  refine lv_aload_n hx hb dX5_init_0 rfl (lv_at hl 0 rfl) ?_
  refine W.objInit hx hb hown (hB _ bg0) (hB _ bg1) (hB _ bg2) rfl (by rw [hml]; exact hl.1) rfl dX5_init_1 (Nat.le_of_ble_eq_true rfl) (Nat.le_of_ble_eq_true rfl) ?_
  refine W.eq (g2 := F0 m 4 ls []) rfl ?_
  refine lv_aload_n hx hb dX5_init_4 rfl (lv_at hl 0 rfl) ?_
  refine lv_iload_n hx hb dX5_init_5 rfl (lv_at hl 1 rfl) ?_
  refine lv_if_le (tgt := 13) hx hb dX5_init_6 (by decide) (fun c9 => absurd c9 (by decide)) (fun _ => ?_)
  refine lv_iload_n hx hb dX5_init_9 rfl (lv_at hl 1 rfl) ?_
  refine lv_goto (tgt := 14) hx hb dX5_init_10 (by decide) ?_
  refine va_newa (atype := .int) (N' := 24) (a0 := (24, .inl (fun _ => 0))) (ty := .int) (n := 24) hx hb (hB _ bg3) rfl hK hP hD hS hA (fun _ => rfl) (by decide) (by decide) (by decide) (Nat.le_of_ble_eq_true rfl) (Nat.le_of_ble_eq_true rfl) dX5_init_14 (fun q1 cA2 H hK hP hD hS => ?_)
  have hP : va_P (dC, dI) vwCl [(h0, .inr (5, [.null, .int 0])), (q1, .inl (cA2, 24, .inl (fun _ => 0)))] H := hP
  have hD : va_D A [(h0, .inr (5, [.null, .int 0])), (q1, .inl (cA2, 24, .inl (fun _ => 0)))] := hD
  have hK : va_K (dC, dI) vwCl [(cA2, .int)] s := hK
  refine W.widen (k := 1) (n := 24) (by decide) (by decide) ?_
  refine va_putF (D := (dC, dI)) (ci := 5) (v := .ref q1) (ty := .array .int) (C := RX5) (T := TX5) (N := 2) hx hb hB inB5 tyX5 tyX5_ok nmX5 hown hK hP hD hS 0 rfl rfl 0 (by decide) (hB _ bg4) (fun _ h9 => h9) rfl hin rfl (by decide +kernel) rfl rfl (Nat.le_of_ble_eq_true rfl) dX5_init_16 (fun H locs hP hD hS => ?_)
  have hP : va_P (dC, dI) vwCl [(h0, .inr (5, [.ref q1, .int 0])), (q1, .inl (cA2, 24, .inl (fun _ => 0)))] H := hP
  have hD : va_D A [(h0, .inr (5, [.ref q1, .int 0])), (q1, .inl (cA2, 24, .inl (fun _ => 0)))] := hD
  have hP9 := hP.sub (ws' := []) [] rfl
  have hD9 := hD.sub (ws' := []) [] (by decide) rfl
  have hK9 := hK.sub (tys' := []) [] rfl
  refine W.widen (k := 1) (n := 24) (by decide) (by decide) ?_
  exact W.vret hx hb hr (fun t9 ht9 hW => ⟨⟨(), rfl, trivial, by rw [ht9]; exact hP9, va_K.moved hW.alike hK9, hD9⟩, hS.F ht9⟩) hS.2.2 dX5_init_19
set_option maxHeartbeats 4000000 in
set_option maxRecDepth 100000 in
/-- Terms() -/
theorem c_Terms_init (l : Launch) (dC : Nat → ClassId) (dI : Nat → Nat → Nat) (h0 : Nat) (sz : Nat) : Met l yX2_init (Cond.code yX2_init cX2_init 1 none :: BG) ({ frames := 1, cells := 5, slots := 840, locals := 12 }) (va_Pc [.ref h0] (fun U => U.heap.size = sz ∧ va_P (dC, dI) vwCl [(h0, .inr (2, [.null, .null, .null, .null, .null, .int 0]))] U.heap ∧ va_K (dC, dI) vwCl [] U ∧ va_D (fun _ => True) [(h0, .inr (2, [.null, .null, .null, .null, .null, .int 0]))])) (va_Qv (fun (u : Nat → Nat) => True) (fun (u : Nat → Nat) (t9 : State) => va_P (dC, dI) vwCl [(h0, .inr (2, [.ref (u 0), .ref (u 1), .ref (u 2), .ref (u 3), .ref (u 4), .int 0]))] t9.heap ∧ va_K (dC, dI) vwCl [] t9 ∧ va_D (va_A [(h0, .inr (2, [.null, .null, .null, .null, .null, .int 0]))] sz) [(h0, .inr (2, [.ref (u 0), .ref (u 1), .ref (u 2), .ref (u 3), .ref (u 4), .int 0]))]) (va_A [(h0, .inr (2, [.null, .null, .null, .null, .null, .int 0]))] sz)) 5 840 (va_A [(h0, .inr (2, [.null, .null, .null, .null, .null, .int 0]))] sz) := by
  refine Met.ofW (cc := cX2_init) (maxL := 1) (ret := none) (by decide) rfl ?_
  intro p e s m args below meth c s₁ B hml hv
  obtain ⟨rfl, hsz, hP, hK, hD0⟩ := hv
  have hx := B.exec
  have hb := B.bytes
  have hr := B.returns
  have hts := atoms_spec (ws := Cond.code yX2_init cX2_init 1 none :: BG) B.pre
  have hB : ∀ w ∈ BG, w.before _ s = true := fun w h => hts w (List.mem_cons_of_mem _ h)
  have hown : s.vm.findClass RX2 = some m.cls := findClass_of_methodNamed B.named
  have hlocks := B.notSynchronized
  have hin : meth.name = "<init>" := (name_of_methodNamed B.named B.method).1
  subst hsz
  have hD := hD0.self (sz := s.heap.size)
  generalize hAe : va_A [(h0, .inr (2, [.null, .null, .null, .null, .null, .int 0]))] s.heap.size = A at hD ⊢
  have hA : ∀ q : Nat, s.heap.size ≤ q → A q := fun q h => by rw [← hAe]; exact Or.inr h
  have hS : va_S A s.heap s.heap [] := va_S.rf
  have hP : va_P (dC, dI) vwCl [(h0, .inr (2, [.null, .null, .null, .null, .null, .int 0]))] s.heap := hP
  have hl := lv_entry ([.ref h0]) (n := 1) (Nat.le_of_ble_eq_true rfl)
  rw [lg_entry_eq]
  generalize (lg_sl ([.ref h0]) ++ List.replicate (1 - (lg_sl ([.ref h0])).length) Slot.unset).toArray = ls at hl ⊢
  have hl : lv_has ls 1 [(0, .ref h0)] := hl
  refine lv_aload_n hx hb dX2_init_0 rfl (lv_at hl 0 rfl) ?_
  refine W.objInit hx hb hown (hB _ bg5) (hB _ bg1) (hB _ bg2) rfl (by rw [hml]; exact hl.1) rfl dX2_init_1 (Nat.le_of_ble_eq_true rfl) (Nat.le_of_ble_eq_true rfl) ?_
  refine W.eq (g2 := F0 m 4 ls []) rfl ?_
  refine lv_aload_n hx hb dX2_init_4 rfl (lv_at hl 0 rfl) ?_
  refine lv_bipush (v := 120) hx hb dX2_init_5 (by decide) ?_
  refine va_newa (atype := .int) (N' := 120) (a0 := (120, .inl (fun _ => 0))) (ty := .int) (n := 120) hx hb (hB _ bg3) rfl hK hP hD hS hA (fun _ => rfl) (by decide) (by decide) (by decide) (Nat.le_of_ble_eq_true rfl) (Nat.le_of_ble_eq_true rfl) dX2_init_7 (fun q1 cA2 H hK hP hD hS => ?_)
  have hP : va_P (dC, dI) vwCl [(h0, .inr (2, [.null, .null, .null, .null, .null, .int 0])), (q1, .inl (cA2, 120, .inl (fun _ => 0)))] H := hP
  have hD : va_D A [(h0, .inr (2, [.null, .null, .null, .null, .null, .int 0])), (q1, .inl (cA2, 120, .inl (fun _ => 0)))] := hD
  have hK : va_K (dC, dI) vwCl [(cA2, .int)] s := hK
  refine W.widen (k := 1) (n := 120) (by decide) (by decide) ?_
  refine va_putF (D := (dC, dI)) (ci := 2) (v := .ref q1) (ty := .array .int) (C := RX2) (T := TX2) (N := 6) hx hb hB inB2 tyX2 tyX2_ok nmX2 hown hK hP hD hS 0 rfl rfl 0 (by decide) (hB _ bg6) (fun _ h9 => h9) rfl hin rfl (by decide +kernel) rfl rfl (Nat.le_of_ble_eq_true rfl) dX2_init_9 (fun H locs hP hD hS => ?_)
  have hP : va_P (dC, dI) vwCl [(h0, .inr (2, [.ref q1, .null, .null, .null, .null, .int 0])), (q1, .inl (cA2, 120, .inl (fun _ => 0)))] H := hP
  have hD : va_D A [(h0, .inr (2, [.ref q1, .null, .null, .null, .null, .int 0])), (q1, .inl (cA2, 120, .inl (fun _ => 0)))] := hD
  have hP := hP.sub (ws' := [(h0, .inr (2, [.ref q1, .null, .null, .null, .null, .int 0]))]) [0] rfl
  have hD := hD.sub (ws' := [(h0, .inr (2, [.ref q1, .null, .null, .null, .null, .int 0]))]) [0] (by decide) rfl
  have hK := hK.sub (tys' := []) [] rfl
  refine lv_aload_n hx hb dX2_init_12 rfl (lv_at hl 0 rfl) ?_
  refine lv_bipush (v := 120) hx hb dX2_init_13 (by decide) ?_
  refine va_newa (atype := .int) (N' := 120) (a0 := (120, .inl (fun _ => 0))) (ty := .int) (n := 120) hx hb (hB _ bg3) rfl hK hP hD hS hA (fun _ => rfl) (by decide) (by decide) (by decide) (Nat.le_of_ble_eq_true rfl) (Nat.le_of_ble_eq_true rfl) dX2_init_15 (fun q3 cA4 H hK hP hD hS => ?_)
  have hP : va_P (dC, dI) vwCl [(h0, .inr (2, [.ref q1, .null, .null, .null, .null, .int 0])), (q3, .inl (cA4, 120, .inl (fun _ => 0)))] H := hP
  have hD : va_D A [(h0, .inr (2, [.ref q1, .null, .null, .null, .null, .int 0])), (q3, .inl (cA4, 120, .inl (fun _ => 0)))] := hD
  have hK : va_K (dC, dI) vwCl [(cA4, .int)] s := hK
  refine W.widen (k := 2) (n := 240) (by decide) (by decide) ?_
  refine va_putF (D := (dC, dI)) (ci := 2) (v := .ref q3) (ty := .array .int) (C := RX2) (T := TX2) (N := 6) hx hb hB inB2 tyX2 tyX2_ok nmX2 hown hK hP hD hS 0 rfl rfl 1 (by decide) (hB _ bg7) (fun _ h9 => h9) rfl hin rfl (by decide +kernel) rfl rfl (Nat.le_of_ble_eq_true rfl) dX2_init_17 (fun H locs hP hD hS => ?_)
  have hP : va_P (dC, dI) vwCl [(h0, .inr (2, [.ref q1, .ref q3, .null, .null, .null, .int 0])), (q3, .inl (cA4, 120, .inl (fun _ => 0)))] H := hP
  have hD : va_D A [(h0, .inr (2, [.ref q1, .ref q3, .null, .null, .null, .int 0])), (q3, .inl (cA4, 120, .inl (fun _ => 0)))] := hD
  have hP := hP.sub (ws' := [(h0, .inr (2, [.ref q1, .ref q3, .null, .null, .null, .int 0]))]) [0] rfl
  have hD := hD.sub (ws' := [(h0, .inr (2, [.ref q1, .ref q3, .null, .null, .null, .int 0]))]) [0] (by decide) rfl
  have hK := hK.sub (tys' := []) [] rfl
  refine lv_aload_n hx hb dX2_init_20 rfl (lv_at hl 0 rfl) ?_
  refine lv_bipush (v := 120) hx hb dX2_init_21 (by decide) ?_
  refine va_newa (atype := .int) (N' := 120) (a0 := (120, .inl (fun _ => 0))) (ty := .int) (n := 120) hx hb (hB _ bg3) rfl hK hP hD hS hA (fun _ => rfl) (by decide) (by decide) (by decide) (Nat.le_of_ble_eq_true rfl) (Nat.le_of_ble_eq_true rfl) dX2_init_23 (fun q5 cA6 H hK hP hD hS => ?_)
  have hP : va_P (dC, dI) vwCl [(h0, .inr (2, [.ref q1, .ref q3, .null, .null, .null, .int 0])), (q5, .inl (cA6, 120, .inl (fun _ => 0)))] H := hP
  have hD : va_D A [(h0, .inr (2, [.ref q1, .ref q3, .null, .null, .null, .int 0])), (q5, .inl (cA6, 120, .inl (fun _ => 0)))] := hD
  have hK : va_K (dC, dI) vwCl [(cA6, .int)] s := hK
  refine W.widen (k := 3) (n := 360) (by decide) (by decide) ?_
  refine va_putF (D := (dC, dI)) (ci := 2) (v := .ref q5) (ty := .array .int) (C := RX2) (T := TX2) (N := 6) hx hb hB inB2 tyX2 tyX2_ok nmX2 hown hK hP hD hS 0 rfl rfl 2 (by decide) (hB _ bg8) (fun _ h9 => h9) rfl hin rfl (by decide +kernel) rfl rfl (Nat.le_of_ble_eq_true rfl) dX2_init_25 (fun H locs hP hD hS => ?_)
  have hP : va_P (dC, dI) vwCl [(h0, .inr (2, [.ref q1, .ref q3, .ref q5, .null, .null, .int 0])), (q5, .inl (cA6, 120, .inl (fun _ => 0)))] H := hP
  have hD : va_D A [(h0, .inr (2, [.ref q1, .ref q3, .ref q5, .null, .null, .int 0])), (q5, .inl (cA6, 120, .inl (fun _ => 0)))] := hD
  have hP := hP.sub (ws' := [(h0, .inr (2, [.ref q1, .ref q3, .ref q5, .null, .null, .int 0]))]) [0] rfl
  have hD := hD.sub (ws' := [(h0, .inr (2, [.ref q1, .ref q3, .ref q5, .null, .null, .int 0]))]) [0] (by decide) rfl
  have hK := hK.sub (tys' := []) [] rfl
  refine lv_aload_n hx hb dX2_init_28 rfl (lv_at hl 0 rfl) ?_
  refine lv_bipush (v := 120) hx hb dX2_init_29 (by decide) ?_
  refine va_newa (atype := .int) (N' := 120) (a0 := (120, .inl (fun _ => 0))) (ty := .int) (n := 120) hx hb (hB _ bg3) rfl hK hP hD hS hA (fun _ => rfl) (by decide) (by decide) (by decide) (Nat.le_of_ble_eq_true rfl) (Nat.le_of_ble_eq_true rfl) dX2_init_31 (fun q7 cA8 H hK hP hD hS => ?_)
  have hP : va_P (dC, dI) vwCl [(h0, .inr (2, [.ref q1, .ref q3, .ref q5, .null, .null, .int 0])), (q7, .inl (cA8, 120, .inl (fun _ => 0)))] H := hP
  have hD : va_D A [(h0, .inr (2, [.ref q1, .ref q3, .ref q5, .null, .null, .int 0])), (q7, .inl (cA8, 120, .inl (fun _ => 0)))] := hD
  have hK : va_K (dC, dI) vwCl [(cA8, .int)] s := hK
  refine W.widen (k := 4) (n := 480) (by decide) (by decide) ?_
  refine va_putF (D := (dC, dI)) (ci := 2) (v := .ref q7) (ty := .array .int) (C := RX2) (T := TX2) (N := 6) hx hb hB inB2 tyX2 tyX2_ok nmX2 hown hK hP hD hS 0 rfl rfl 3 (by decide) (hB _ bg9) (fun _ h9 => h9) rfl hin rfl (by decide +kernel) rfl rfl (Nat.le_of_ble_eq_true rfl) dX2_init_33 (fun H locs hP hD hS => ?_)
  have hP : va_P (dC, dI) vwCl [(h0, .inr (2, [.ref q1, .ref q3, .ref q5, .ref q7, .null, .int 0])), (q7, .inl (cA8, 120, .inl (fun _ => 0)))] H := hP
  have hD : va_D A [(h0, .inr (2, [.ref q1, .ref q3, .ref q5, .ref q7, .null, .int 0])), (q7, .inl (cA8, 120, .inl (fun _ => 0)))] := hD
  have hP := hP.sub (ws' := [(h0, .inr (2, [.ref q1, .ref q3, .ref q5, .ref q7, .null, .int 0]))]) [0] rfl
  have hD := hD.sub (ws' := [(h0, .inr (2, [.ref q1, .ref q3, .ref q5, .ref q7, .null, .int 0]))]) [0] (by decide) rfl
  have hK := hK.sub (tys' := []) [] rfl
  refine lv_aload_n hx hb dX2_init_36 rfl (lv_at hl 0 rfl) ?_
  refine lv_sipush (v := 360) hx hb dX2_init_37 (by decide) ?_
  refine va_newa (atype := .int) (N' := 360) (a0 := (360, .inl (fun _ => 0))) (ty := .int) (n := 360) hx hb (hB _ bg3) rfl hK hP hD hS hA (fun _ => rfl) (by decide) (by decide) (by decide) (Nat.le_of_ble_eq_true rfl) (Nat.le_of_ble_eq_true rfl) dX2_init_40 (fun q9 cA10 H hK hP hD hS => ?_)
  have hP : va_P (dC, dI) vwCl [(h0, .inr (2, [.ref q1, .ref q3, .ref q5, .ref q7, .null, .int 0])), (q9, .inl (cA10, 360, .inl (fun _ => 0)))] H := hP
  have hD : va_D A [(h0, .inr (2, [.ref q1, .ref q3, .ref q5, .ref q7, .null, .int 0])), (q9, .inl (cA10, 360, .inl (fun _ => 0)))] := hD
  have hK : va_K (dC, dI) vwCl [(cA10, .int)] s := hK
  refine W.widen (k := 5) (n := 840) (by decide) (by decide) ?_
  refine va_putF (D := (dC, dI)) (ci := 2) (v := .ref q9) (ty := .array .int) (C := RX2) (T := TX2) (N := 6) hx hb hB inB2 tyX2 tyX2_ok nmX2 hown hK hP hD hS 0 rfl rfl 4 (by decide) (hB _ bg10) (fun _ h9 => h9) rfl hin rfl (by decide +kernel) rfl rfl (Nat.le_of_ble_eq_true rfl) dX2_init_42 (fun H locs hP hD hS => ?_)
  have hP : va_P (dC, dI) vwCl [(h0, .inr (2, [.ref q1, .ref q3, .ref q5, .ref q7, .ref q9, .int 0])), (q9, .inl (cA10, 360, .inl (fun _ => 0)))] H := hP
  have hD : va_D A [(h0, .inr (2, [.ref q1, .ref q3, .ref q5, .ref q7, .ref q9, .int 0])), (q9, .inl (cA10, 360, .inl (fun _ => 0)))] := hD
  have hP := hP.sub (ws' := [(h0, .inr (2, [.ref q1, .ref q3, .ref q5, .ref q7, .ref q9, .int 0]))]) [0] rfl
  have hD := hD.sub (ws' := [(h0, .inr (2, [.ref q1, .ref q3, .ref q5, .ref q7, .ref q9, .int 0]))]) [0] (by decide) rfl
  have hK := hK.sub (tys' := []) [] rfl
  have hP9 := hP.sub (ws' := [(h0, .inr (2, [.ref q1, .ref q3, .ref q5, .ref q7, .ref q9, .int 0]))]) [0] rfl
  have hD9 := hD.sub (ws' := [(h0, .inr (2, [.ref q1, .ref q3, .ref q5, .ref q7, .ref q9, .int 0]))]) [0] (by decide) rfl
  have hK9 := hK.sub (tys' := []) [] rfl
  refine W.widen (k := 5) (n := 840) (by decide) (by decide) ?_
  exact W.vret hx hb hr (fun t9 ht9 hW => ⟨⟨(fun k => [q1, q3, q5, q7, q9, 0].getD k 0), rfl, trivial, by rw [ht9]; exact hP9, va_K.moved hW.alike hK9, hD9⟩, hS.F ht9⟩) hS.2.2 dX2_init_45
set_option maxHeartbeats 4000000 in
set_option maxRecDepth 100000 in
/-- Reader(tokens, terms) -/
theorem c_Reader_init (l : Launch) (dC : Nat → ClassId) (dI : Nat → Nat → Nat) (h0 : Nat) (a0 : Nat) (a1 : Nat) (sz : Nat) : Met l yX1_init (Cond.code yX1_init cX1_init 3 none :: BG) ({ frames := 1, cells := 0, slots := 0, locals := 12 }) (va_Pc [.ref h0, .ref a0, .ref a1] (fun U => U.heap.size = sz ∧ va_P (dC, dI) vwCl [(h0, .inr (1, [.null, .null, .int 0, .int 0, .int 0, .int 0]))] U.heap ∧ va_K (dC, dI) vwCl [] U ∧ va_D (fun _ => True) [(h0, .inr (1, [.null, .null, .int 0, .int 0, .int 0, .int 0]))])) (va_Qv (fun (u9 : Unit) => True) (fun (_u : Unit) (t9 : State) => va_P (dC, dI) vwCl [(h0, .inr (1, [.ref a0, .ref a1, .int 0, .int 0, .int 0, .int (-1)]))] t9.heap ∧ va_K (dC, dI) vwCl [] t9 ∧ va_D (va_A [(h0, .inr (1, [.null, .null, .int 0, .int 0, .int 0, .int 0]))] sz) [(h0, .inr (1, [.ref a0, .ref a1, .int 0, .int 0, .int 0, .int (-1)]))]) (va_A [(h0, .inr (1, [.null, .null, .int 0, .int 0, .int 0, .int 0]))] sz)) 0 0 (va_A [(h0, .inr (1, [.null, .null, .int 0, .int 0, .int 0, .int 0]))] sz) := by
  refine Met.ofW (cc := cX1_init) (maxL := 3) (ret := none) (by decide) rfl ?_
  intro p e s m args below meth c s₁ B hml hv
  obtain ⟨rfl, hsz, hP, hK, hD0⟩ := hv
  have hx := B.exec
  have hb := B.bytes
  have hr := B.returns
  have hts := atoms_spec (ws := Cond.code yX1_init cX1_init 3 none :: BG) B.pre
  have hB : ∀ w ∈ BG, w.before _ s = true := fun w h => hts w (List.mem_cons_of_mem _ h)
  have hown : s.vm.findClass RX1 = some m.cls := findClass_of_methodNamed B.named
  have hlocks := B.notSynchronized
  have hin : meth.name = "<init>" := (name_of_methodNamed B.named B.method).1
  subst hsz
  have hD := hD0.self (sz := s.heap.size)
  generalize hAe : va_A [(h0, .inr (1, [.null, .null, .int 0, .int 0, .int 0, .int 0]))] s.heap.size = A at hD ⊢
  have hA : ∀ q : Nat, s.heap.size ≤ q → A q := fun q h => by rw [← hAe]; exact Or.inr h
  have hS : va_S A s.heap s.heap [] := va_S.rf
  have hP : va_P (dC, dI) vwCl [(h0, .inr (1, [.null, .null, .int 0, .int 0, .int 0, .int 0]))] s.heap := hP
  have hl := lv_entry ([.ref h0, .ref a0, .ref a1]) (n := 3) (Nat.le_of_ble_eq_true rfl)
  rw [lg_entry_eq]
  generalize (lg_sl ([.ref h0, .ref a0, .ref a1]) ++ List.replicate (3 - (lg_sl ([.ref h0, .ref a0, .ref a1])).length) Slot.unset).toArray = ls at hl ⊢
  have hl : lv_has ls 3 [(0, .ref h0), (1, .ref a0), (2, .ref a1)] := hl
  refine lv_aload_n hx hb dX1_init_0 rfl (lv_at hl 0 rfl) ?_
  refine W.objInit hx hb hown (hB _ bg11) (hB _ bg1) (hB _ bg2) rfl (by rw [hml]; exact hl.1) rfl dX1_init_1 (Nat.le_of_ble_eq_true rfl) (Nat.le_of_ble_eq_true rfl) ?_
  refine W.eq (g2 := F0 m 4 ls []) rfl ?_
  refine lv_aload_n hx hb dX1_init_4 rfl (lv_at hl 0 rfl) ?_
  refine lv_iconst (v := -1) hx hb dX1_init_5 (by decide) ?_
  refine va_put (D := (dC, dI)) (ci := 1) (v := .int (-1)) (ty := .int) (C := RX1) (T := TX1) (N := 6) hx hb hB inB1 tyX1 tyX1_ok nmX1 hown hK hP hD hS 0 rfl rfl 5 (by decide) (hB _ bg12) (fun _ h9 => h9) rfl (by decide +kernel) rfl rfl (Nat.le_of_ble_eq_true rfl) dX1_init_6 (fun H locs hP hD hS => ?_)
  have hP : va_P (dC, dI) vwCl [(h0, .inr (1, [.null, .null, .int 0, .int 0, .int 0, .int (-1)]))] H := hP
  have hD : va_D A [(h0, .inr (1, [.null, .null, .int 0, .int 0, .int 0, .int (-1)]))] := hD
  refine lv_aload_n hx hb dX1_init_9 rfl (lv_at hl 0 rfl) ?_
  refine lv_aload_n hx hb dX1_init_10 rfl (lv_at hl 1 rfl) ?_
  refine va_putF (D := (dC, dI)) (ci := 1) (v := .ref a0) (ty := .array .int) (C := RX1) (T := TX1) (N := 6) hx hb hB inB1 tyX1 tyX1_ok nmX1 hown hK hP hD hS 0 rfl rfl 0 (by decide) (hB _ bg13) (fun _ h9 => h9) rfl hin rfl (by decide +kernel) rfl rfl (Nat.le_of_ble_eq_true rfl) dX1_init_11 (fun H locs hP hD hS => ?_)
  have hP : va_P (dC, dI) vwCl [(h0, .inr (1, [.ref a0, .null, .int 0, .int 0, .int 0, .int (-1)]))] H := hP
  have hD : va_D A [(h0, .inr (1, [.ref a0, .null, .int 0, .int 0, .int 0, .int (-1)]))] := hD
  refine lv_aload_n hx hb dX1_init_14 rfl (lv_at hl 0 rfl) ?_
  refine lv_aload_n hx hb dX1_init_15 rfl (lv_at hl 2 rfl) ?_
  refine va_putF (D := (dC, dI)) (ci := 1) (v := .ref a1) (ty := .object "TinyMl$Terms") (C := RX1) (T := TX1) (N := 6) hx hb hB inB1 tyX1 tyX1_ok nmX1 hown hK hP hD hS 0 rfl rfl 1 (by decide) (hB _ bg14) (fun _ h9 => h9) rfl hin rfl (by decide +kernel) rfl rfl (Nat.le_of_ble_eq_true rfl) dX1_init_16 (fun H locs hP hD hS => ?_)
  have hP : va_P (dC, dI) vwCl [(h0, .inr (1, [.ref a0, .ref a1, .int 0, .int 0, .int 0, .int (-1)]))] H := hP
  have hD : va_D A [(h0, .inr (1, [.ref a0, .ref a1, .int 0, .int 0, .int 0, .int (-1)]))] := hD
  have hP9 := hP.sub (ws' := [(h0, .inr (1, [.ref a0, .ref a1, .int 0, .int 0, .int 0, .int (-1)]))]) [0] rfl
  have hD9 := hD.sub (ws' := [(h0, .inr (1, [.ref a0, .ref a1, .int 0, .int 0, .int 0, .int (-1)]))]) [0] (by decide) rfl
  have hK9 := hK.sub (tys' := []) [] rfl
  refine W.widen (k := 0) (n := 0) (by decide) (by decide) ?_
  exact W.vret hx hb hr (fun t9 ht9 hW => ⟨⟨(), rfl, trivial, by rw [ht9]; exact hP9, va_K.moved hW.alike hK9, hD9⟩, hS.F ht9⟩) hS.2.2 dX1_init_19
set_option maxHeartbeats 4000000 in
set_option maxRecDepth 100000 in
/-- Types() -/
theorem c_Types_init (l : Launch) (dC : Nat → ClassId) (dI : Nat → Nat → Nat) (h0 : Nat) (sz : Nat) : Met l yX4_init (Cond.code yX4_init cX4_init 1 none :: BG) ({ frames := 2, cells := 9, slots := 3354, locals := 33 }) (va_Pc [.ref h0] (fun U => U.heap.size = sz ∧ va_P (dC, dI) vwCl [(h0, .inr (4, [.null, .null, .null, .null, .null, .null, .null, .null, .int 0, .int 0, .int 0, .int 0]))] U.heap ∧ va_K (dC, dI) vwCl [] U ∧ va_D (fun _ => True) [(h0, .inr (4, [.null, .null, .null, .null, .null, .null, .null, .null, .int 0, .int 0, .int 0, .int 0]))])) (va_Qv (fun (u9 : Unit) => True) (fun (_u : Unit) (t9 : State) => va_P (dC, dI) vwCl [] t9.heap ∧ va_K (dC, dI) vwCl [] t9 ∧ va_D (va_A [(h0, .inr (4, [.null, .null, .null, .null, .null, .null, .null, .null, .int 0, .int 0, .int 0, .int 0]))] sz) []) (va_A [(h0, .inr (4, [.null, .null, .null, .null, .null, .null, .null, .null, .int 0, .int 0, .int 0, .int 0]))] sz)) 9 3354 (va_A [(h0, .inr (4, [.null, .null, .null, .null, .null, .null, .null, .null, .int 0, .int 0, .int 0, .int 0]))] sz) := by
  refine Met.ofW (cc := cX4_init) (maxL := 1) (ret := none) (by decide) rfl ?_
  intro p e s m args below meth c s₁ B hml hv
  obtain ⟨rfl, hsz, hP, hK, hD0⟩ := hv
  have hx := B.exec
  have hb := B.bytes
  have hr := B.returns
  have hts := atoms_spec (ws := Cond.code yX4_init cX4_init 1 none :: BG) B.pre
  have hB : ∀ w ∈ BG, w.before _ s = true := fun w h => hts w (List.mem_cons_of_mem _ h)
  have hown : s.vm.findClass RX4 = some m.cls := findClass_of_methodNamed B.named
  have hlocks := B.notSynchronized
  have hin : meth.name = "<init>" := (name_of_methodNamed B.named B.method).1
  subst hsz
  have hD := hD0.self (sz := s.heap.size)
  generalize hAe : va_A [(h0, .inr (4, [.null, .null, .null, .null, .null, .null, .null, .null, .int 0, .int 0, .int 0, .int 0]))] s.heap.size = A at hD ⊢
  have hA : ∀ q : Nat, s.heap.size ≤ q → A q := fun q h => by rw [← hAe]; exact Or.inr h
  have hS : va_S A s.heap s.heap [] := va_S.rf
  have hP : va_P (dC, dI) vwCl [(h0, .inr (4, [.null, .null, .null, .null, .null, .null, .null, .null, .int 0, .int 0, .int 0, .int 0]))] s.heap := hP
  have hl := lv_entry ([.ref h0]) (n := 1) (Nat.le_of_ble_eq_true rfl)
  rw [lg_entry_eq]
  generalize (lg_sl ([.ref h0]) ++ List.replicate (1 - (lg_sl ([.ref h0])).length) Slot.unset).toArray = ls at hl ⊢
  have hl : lv_has ls 1 [(0, .ref h0)] := hl
  refine lv_aload_n hx hb dX4_init_0 rfl (lv_at hl 0 rfl) ?_
  refine W.objInit hx hb hown (hB _ bg15) (hB _ bg1) (hB _ bg2) rfl (by rw [hml]; exact hl.1) rfl dX4_init_1 (Nat.le_of_ble_eq_true rfl) (Nat.le_of_ble_eq_true rfl) ?_
  refine W.eq (g2 := F0 m 4 ls []) rfl ?_
  refine lv_aload_n hx hb dX4_init_4 rfl (lv_at hl 0 rfl) ?_
  refine lv_sipush (v := 256) hx hb dX4_init_5 (by decide) ?_
  refine va_newa (atype := .int) (N' := 256) (a0 := (256, .inl (fun _ => 0))) (ty := .int) (n := 256) hx hb (hB _ bg3) rfl hK hP hD hS hA (fun _ => rfl) (by decide) (by decide) (by decide) (Nat.le_of_ble_eq_true rfl) (Nat.le_of_ble_eq_true rfl) dX4_init_8 (fun q1 cA2 H hK hP hD hS => ?_)
  have hP : va_P (dC, dI) vwCl [(h0, .inr (4, [.null, .null, .null, .null, .null, .null, .null, .null, .int 0, .int 0, .int 0, .int 0])), (q1, .inl (cA2, 256, .inl (fun _ => 0)))] H := hP
  have hD : va_D A [(h0, .inr (4, [.null, .null, .null, .null, .null, .null, .null, .null, .int 0, .int 0, .int 0, .int 0])), (q1, .inl (cA2, 256, .inl (fun _ => 0)))] := hD
  have hK : va_K (dC, dI) vwCl [(cA2, .int)] s := hK
  refine W.widen (k := 1) (n := 256) (by decide) (by decide) ?_
  refine va_put (D := (dC, dI)) (ci := 4) (v := .ref q1) (ty := .array .int) (C := RX4) (T := TX4) (N := 12) hx hb hB inB4 tyX4 tyX4_ok nmX4 hown hK hP hD hS 0 rfl rfl 0 (by decide) (hB _ bg16) (fun _ h9 => h9) rfl (by decide +kernel) rfl rfl (Nat.le_of_ble_eq_true rfl) dX4_init_10 (fun H locs hP hD hS => ?_)
  have hP : va_P (dC, dI) vwCl [(h0, .inr (4, [.ref q1, .null, .null, .null, .null, .null, .null, .null, .int 0, .int 0, .int 0, .int 0])), (q1, .inl (cA2, 256, .inl (fun _ => 0)))] H := hP
  have hD : va_D A [(h0, .inr (4, [.ref q1, .null, .null, .null, .null, .null, .null, .null, .int 0, .int 0, .int 0, .int 0])), (q1, .inl (cA2, 256, .inl (fun _ => 0)))] := hD
  have hP := hP.sub (ws' := [(h0, .inr (4, [.ref q1, .null, .null, .null, .null, .null, .null, .null, .int 0, .int 0, .int 0, .int 0]))]) [0] rfl
  have hD := hD.sub (ws' := [(h0, .inr (4, [.ref q1, .null, .null, .null, .null, .null, .null, .null, .int 0, .int 0, .int 0, .int 0]))]) [0] (by decide) rfl
  have hK := hK.sub (tys' := []) [] rfl
  refine lv_aload_n hx hb dX4_init_13 rfl (lv_at hl 0 rfl) ?_
  refine lv_sipush (v := 256) hx hb dX4_init_14 (by decide) ?_
  refine va_newa (atype := .int) (N' := 256) (a0 := (256, .inl (fun _ => 0))) (ty := .int) (n := 256) hx hb (hB _ bg3) rfl hK hP hD hS hA (fun _ => rfl) (by decide) (by decide) (by decide) (Nat.le_of_ble_eq_true rfl) (Nat.le_of_ble_eq_true rfl) dX4_init_17 (fun q3 cA4 H hK hP hD hS => ?_)
  have hP : va_P (dC, dI) vwCl [(h0, .inr (4, [.ref q1, .null, .null, .null, .null, .null, .null, .null, .int 0, .int 0, .int 0, .int 0])), (q3, .inl (cA4, 256, .inl (fun _ => 0)))] H := hP
  have hD : va_D A [(h0, .inr (4, [.ref q1, .null, .null, .null, .null, .null, .null, .null, .int 0, .int 0, .int 0, .int 0])), (q3, .inl (cA4, 256, .inl (fun _ => 0)))] := hD
  have hK : va_K (dC, dI) vwCl [(cA4, .int)] s := hK
  refine W.widen (k := 2) (n := 512) (by decide) (by decide) ?_
  refine va_put (D := (dC, dI)) (ci := 4) (v := .ref q3) (ty := .array .int) (C := RX4) (T := TX4) (N := 12) hx hb hB inB4 tyX4 tyX4_ok nmX4 hown hK hP hD hS 0 rfl rfl 1 (by decide) (hB _ bg17) (fun _ h9 => h9) rfl (by decide +kernel) rfl rfl (Nat.le_of_ble_eq_true rfl) dX4_init_19 (fun H locs hP hD hS => ?_)
  have hP : va_P (dC, dI) vwCl [(h0, .inr (4, [.ref q1, .ref q3, .null, .null, .null, .null, .null, .null, .int 0, .int 0, .int 0, .int 0])), (q3, .inl (cA4, 256, .inl (fun _ => 0)))] H := hP
  have hD : va_D A [(h0, .inr (4, [.ref q1, .ref q3, .null, .null, .null, .null, .null, .null, .int 0, .int 0, .int 0, .int 0])), (q3, .inl (cA4, 256, .inl (fun _ => 0)))] := hD
  have hP := hP.sub (ws' := [(h0, .inr (4, [.ref q1, .ref q3, .null, .null, .null, .null, .null, .null, .int 0, .int 0, .int 0, .int 0]))]) [0] rfl
  have hD := hD.sub (ws' := [(h0, .inr (4, [.ref q1, .ref q3, .null, .null, .null, .null, .null, .null, .int 0, .int 0, .int 0, .int 0]))]) [0] (by decide) rfl
  have hK := hK.sub (tys' := []) [] rfl
  refine lv_aload_n hx hb dX4_init_22 rfl (lv_at hl 0 rfl) ?_
  refine lv_sipush (v := 256) hx hb dX4_init_23 (by decide) ?_
  refine va_newa (atype := .int) (N' := 256) (a0 := (256, .inl (fun _ => 0))) (ty := .int) (n := 256) hx hb (hB _ bg3) rfl hK hP hD hS hA (fun _ => rfl) (by decide) (by decide) (by decide) (Nat.le_of_ble_eq_true rfl) (Nat.le_of_ble_eq_true rfl) dX4_init_26 (fun q5 cA6 H hK hP hD hS => ?_)
  have hP : va_P (dC, dI) vwCl [(h0, .inr (4, [.ref q1, .ref q3, .null, .null, .null, .null, .null, .null, .int 0, .int 0, .int 0, .int 0])), (q5, .inl (cA6, 256, .inl (fun _ => 0)))] H := hP
  have hD : va_D A [(h0, .inr (4, [.ref q1, .ref q3, .null, .null, .null, .null, .null, .null, .int 0, .int 0, .int 0, .int 0])), (q5, .inl (cA6, 256, .inl (fun _ => 0)))] := hD
  have hK : va_K (dC, dI) vwCl [(cA6, .int)] s := hK
  refine W.widen (k := 3) (n := 768) (by decide) (by decide) ?_
  refine va_put (D := (dC, dI)) (ci := 4) (v := .ref q5) (ty := .array .int) (C := RX4) (T := TX4) (N := 12) hx hb hB inB4 tyX4 tyX4_ok nmX4 hown hK hP hD hS 0 rfl rfl 2 (by decide) (hB _ bg18) (fun _ h9 => h9) rfl (by decide +kernel) rfl rfl (Nat.le_of_ble_eq_true rfl) dX4_init_28 (fun H locs hP hD hS => ?_)
  have hP : va_P (dC, dI) vwCl [(h0, .inr (4, [.ref q1, .ref q3, .ref q5, .null, .null, .null, .null, .null, .int 0, .int 0, .int 0, .int 0])), (q5, .inl (cA6, 256, .inl (fun _ => 0)))] H := hP
  have hD : va_D A [(h0, .inr (4, [.ref q1, .ref q3, .ref q5, .null, .null, .null, .null, .null, .int 0, .int 0, .int 0, .int 0])), (q5, .inl (cA6, 256, .inl (fun _ => 0)))] := hD
  have hP := hP.sub (ws' := [(h0, .inr (4, [.ref q1, .ref q3, .ref q5, .null, .null, .null, .null, .null, .int 0, .int 0, .int 0, .int 0]))]) [0] rfl
  have hD := hD.sub (ws' := [(h0, .inr (4, [.ref q1, .ref q3, .ref q5, .null, .null, .null, .null, .null, .int 0, .int 0, .int 0, .int 0]))]) [0] (by decide) rfl
  have hK := hK.sub (tys' := []) [] rfl
  refine lv_aload_n hx hb dX4_init_31 rfl (lv_at hl 0 rfl) ?_
  refine lv_sipush (v := 256) hx hb dX4_init_32 (by decide) ?_
  refine va_newa (atype := .int) (N' := 256) (a0 := (256, .inl (fun _ => 0))) (ty := .int) (n := 256) hx hb (hB _ bg3) rfl hK hP hD hS hA (fun _ => rfl) (by decide) (by decide) (by decide) (Nat.le_of_ble_eq_true rfl) (Nat.le_of_ble_eq_true rfl) dX4_init_35 (fun q7 cA8 H hK hP hD hS => ?_)
  have hP : va_P (dC, dI) vwCl [(h0, .inr (4, [.ref q1, .ref q3, .ref q5, .null, .null, .null, .null, .null, .int 0, .int 0, .int 0, .int 0])), (q7, .inl (cA8, 256, .inl (fun _ => 0)))] H := hP
  have hD : va_D A [(h0, .inr (4, [.ref q1, .ref q3, .ref q5, .null, .null, .null, .null, .null, .int 0, .int 0, .int 0, .int 0])), (q7, .inl (cA8, 256, .inl (fun _ => 0)))] := hD
  have hK : va_K (dC, dI) vwCl [(cA8, .int)] s := hK
  refine W.widen (k := 4) (n := 1024) (by decide) (by decide) ?_
  refine va_put (D := (dC, dI)) (ci := 4) (v := .ref q7) (ty := .array .int) (C := RX4) (T := TX4) (N := 12) hx hb hB inB4 tyX4 tyX4_ok nmX4 hown hK hP hD hS 0 rfl rfl 3 (by decide) (hB _ bg19) (fun _ h9 => h9) rfl (by decide +kernel) rfl rfl (Nat.le_of_ble_eq_true rfl) dX4_init_37 (fun H locs hP hD hS => ?_)
  have hP : va_P (dC, dI) vwCl [(h0, .inr (4, [.ref q1, .ref q3, .ref q5, .ref q7, .null, .null, .null, .null, .int 0, .int 0, .int 0, .int 0])), (q7, .inl (cA8, 256, .inl (fun _ => 0)))] H := hP
  have hD : va_D A [(h0, .inr (4, [.ref q1, .ref q3, .ref q5, .ref q7, .null, .null, .null, .null, .int 0, .int 0, .int 0, .int 0])), (q7, .inl (cA8, 256, .inl (fun _ => 0)))] := hD
  have hP := hP.sub (ws' := [(h0, .inr (4, [.ref q1, .ref q3, .ref q5, .ref q7, .null, .null, .null, .null, .int 0, .int 0, .int 0, .int 0]))]) [0] rfl
  have hD := hD.sub (ws' := [(h0, .inr (4, [.ref q1, .ref q3, .ref q5, .ref q7, .null, .null, .null, .null, .int 0, .int 0, .int 0, .int 0]))]) [0] (by decide) rfl
  have hK := hK.sub (tys' := []) [] rfl
  refine lv_aload_n hx hb dX4_init_40 rfl (lv_at hl 0 rfl) ?_
  refine lv_sipush (v := 256) hx hb dX4_init_41 (by decide) ?_
  refine va_newa (atype := .int) (N' := 256) (a0 := (256, .inl (fun _ => 0))) (ty := .int) (n := 256) hx hb (hB _ bg3) rfl hK hP hD hS hA (fun _ => rfl) (by decide) (by decide) (by decide) (Nat.le_of_ble_eq_true rfl) (Nat.le_of_ble_eq_true rfl) dX4_init_44 (fun q9 cA10 H hK hP hD hS => ?_)
  have hP : va_P (dC, dI) vwCl [(h0, .inr (4, [.ref q1, .ref q3, .ref q5, .ref q7, .null, .null, .null, .null, .int 0, .int 0, .int 0, .int 0])), (q9, .inl (cA10, 256, .inl (fun _ => 0)))] H := hP
  have hD : va_D A [(h0, .inr (4, [.ref q1, .ref q3, .ref q5, .ref q7, .null, .null, .null, .null, .int 0, .int 0, .int 0, .int 0])), (q9, .inl (cA10, 256, .inl (fun _ => 0)))] := hD
  have hK : va_K (dC, dI) vwCl [(cA10, .int)] s := hK
  refine W.widen (k := 5) (n := 1280) (by decide) (by decide) ?_
  refine va_put (D := (dC, dI)) (ci := 4) (v := .ref q9) (ty := .array .int) (C := RX4) (T := TX4) (N := 12) hx hb hB inB4 tyX4 tyX4_ok nmX4 hown hK hP hD hS 0 rfl rfl 4 (by decide) (hB _ bg20) (fun _ h9 => h9) rfl (by decide +kernel) rfl rfl (Nat.le_of_ble_eq_true rfl) dX4_init_46 (fun H locs hP hD hS => ?_)
  have hP : va_P (dC, dI) vwCl [(h0, .inr (4, [.ref q1, .ref q3, .ref q5, .ref q7, .ref q9, .null, .null, .null, .int 0, .int 0, .int 0, .int 0])), (q9, .inl (cA10, 256, .inl (fun _ => 0)))] H := hP
  have hD : va_D A [(h0, .inr (4, [.ref q1, .ref q3, .ref q5, .ref q7, .ref q9, .null, .null, .null, .int 0, .int 0, .int 0, .int 0])), (q9, .inl (cA10, 256, .inl (fun _ => 0)))] := hD
  have hP := hP.sub (ws' := [(h0, .inr (4, [.ref q1, .ref q3, .ref q5, .ref q7, .ref q9, .null, .null, .null, .int 0, .int 0, .int 0, .int 0]))]) [0] rfl
  have hD := hD.sub (ws' := [(h0, .inr (4, [.ref q1, .ref q3, .ref q5, .ref q7, .ref q9, .null, .null, .null, .int 0, .int 0, .int 0, .int 0]))]) [0] (by decide) rfl
  have hK := hK.sub (tys' := []) [] rfl
  refine lv_aload_n hx hb dX4_init_49 rfl (lv_at hl 0 rfl) ?_
  refine lv_sipush (v := 1024) hx hb dX4_init_50 (by decide) ?_
  refine va_newa (atype := .int) (N' := 1024) (a0 := (1024, .inl (fun _ => 0))) (ty := .int) (n := 1024) hx hb (hB _ bg3) rfl hK hP hD hS hA (fun _ => rfl) (by decide) (by decide) (by decide) (Nat.le_of_ble_eq_true rfl) (Nat.le_of_ble_eq_true rfl) dX4_init_53 (fun q11 cA12 H hK hP hD hS => ?_)
  have hP : va_P (dC, dI) vwCl [(h0, .inr (4, [.ref q1, .ref q3, .ref q5, .ref q7, .ref q9, .null, .null, .null, .int 0, .int 0, .int 0, .int 0])), (q11, .inl (cA12, 1024, .inl (fun _ => 0)))] H := hP
  have hD : va_D A [(h0, .inr (4, [.ref q1, .ref q3, .ref q5, .ref q7, .ref q9, .null, .null, .null, .int 0, .int 0, .int 0, .int 0])), (q11, .inl (cA12, 1024, .inl (fun _ => 0)))] := hD
  have hK : va_K (dC, dI) vwCl [(cA12, .int)] s := hK
  refine W.widen (k := 6) (n := 2304) (by decide) (by decide) ?_
  refine va_putF (D := (dC, dI)) (ci := 4) (v := .ref q11) (ty := .array .int) (C := RX4) (T := TX4) (N := 12) hx hb hB inB4 tyX4 tyX4_ok nmX4 hown hK hP hD hS 0 rfl rfl 5 (by decide) (hB _ bg21) (fun _ h9 => h9) rfl hin rfl (by decide +kernel) rfl rfl (Nat.le_of_ble_eq_true rfl) dX4_init_55 (fun H locs hP hD hS => ?_)
  have hP : va_P (dC, dI) vwCl [(h0, .inr (4, [.ref q1, .ref q3, .ref q5, .ref q7, .ref q9, .ref q11, .null, .null, .int 0, .int 0, .int 0, .int 0])), (q11, .inl (cA12, 1024, .inl (fun _ => 0)))] H := hP
  have hD : va_D A [(h0, .inr (4, [.ref q1, .ref q3, .ref q5, .ref q7, .ref q9, .ref q11, .null, .null, .int 0, .int 0, .int 0, .int 0])), (q11, .inl (cA12, 1024, .inl (fun _ => 0)))] := hD
  have hP := hP.sub (ws' := [(h0, .inr (4, [.ref q1, .ref q3, .ref q5, .ref q7, .ref q9, .ref q11, .null, .null, .int 0, .int 0, .int 0, .int 0]))]) [0] rfl
  have hD := hD.sub (ws' := [(h0, .inr (4, [.ref q1, .ref q3, .ref q5, .ref q7, .ref q9, .ref q11, .null, .null, .int 0, .int 0, .int 0, .int 0]))]) [0] (by decide) rfl
  have hK := hK.sub (tys' := []) [] rfl
  refine lv_aload_n hx hb dX4_init_58 rfl (lv_at hl 0 rfl) ?_
  refine lv_sipush (v := 1024) hx hb dX4_init_59 (by decide) ?_
  refine va_newa (atype := .int) (N' := 1024) (a0 := (1024, .inl (fun _ => 0))) (ty := .int) (n := 1024) hx hb (hB _ bg3) rfl hK hP hD hS hA (fun _ => rfl) (by decide) (by decide) (by decide) (Nat.le_of_ble_eq_true rfl) (Nat.le_of_ble_eq_true rfl) dX4_init_62 (fun q13 cA14 H hK hP hD hS => ?_)
  have hP : va_P (dC, dI) vwCl [(h0, .inr (4, [.ref q1, .ref q3, .ref q5, .ref q7, .ref q9, .ref q11, .null, .null, .int 0, .int 0, .int 0, .int 0])), (q13, .inl (cA14, 1024, .inl (fun _ => 0)))] H := hP
  have hD : va_D A [(h0, .inr (4, [.ref q1, .ref q3, .ref q5, .ref q7, .ref q9, .ref q11, .null, .null, .int 0, .int 0, .int 0, .int 0])), (q13, .inl (cA14, 1024, .inl (fun _ => 0)))] := hD
  have hK : va_K (dC, dI) vwCl [(cA14, .int)] s := hK
  refine W.widen (k := 7) (n := 3328) (by decide) (by decide) ?_
  refine va_putF (D := (dC, dI)) (ci := 4) (v := .ref q13) (ty := .array .int) (C := RX4) (T := TX4) (N := 12) hx hb hB inB4 tyX4 tyX4_ok nmX4 hown hK hP hD hS 0 rfl rfl 6 (by decide) (hB _ bg22) (fun _ h9 => h9) rfl hin rfl (by decide +kernel) rfl rfl (Nat.le_of_ble_eq_true rfl) dX4_init_64 (fun H locs hP hD hS => ?_)
  have hP : va_P (dC, dI) vwCl [(h0, .inr (4, [.ref q1, .ref q3, .ref q5, .ref q7, .ref q9, .ref q11, .ref q13, .null, .int 0, .int 0, .int 0, .int 0])), (q13, .inl (cA14, 1024, .inl (fun _ => 0)))] H := hP
  have hD : va_D A [(h0, .inr (4, [.ref q1, .ref q3, .ref q5, .ref q7, .ref q9, .ref q11, .ref q13, .null, .int 0, .int 0, .int 0, .int 0])), (q13, .inl (cA14, 1024, .inl (fun _ => 0)))] := hD
  have hP := hP.sub (ws' := [(h0, .inr (4, [.ref q1, .ref q3, .ref q5, .ref q7, .ref q9, .ref q11, .ref q13, .null, .int 0, .int 0, .int 0, .int 0]))]) [0] rfl
  have hD := hD.sub (ws' := [(h0, .inr (4, [.ref q1, .ref q3, .ref q5, .ref q7, .ref q9, .ref q11, .ref q13, .null, .int 0, .int 0, .int 0, .int 0]))]) [0] (by decide) rfl
  have hK := hK.sub (tys' := []) [] rfl
  refine lv_aload_n hx hb dX4_init_67 rfl (lv_at hl 0 rfl) ?_
  refine va_new (ci := 5) (fs := [.null, .int 0]) (C := RX5) (T := TX5) (N := 2) hx hb hB inB5 tyX5 tyX5_ok hown (hB _ bg23) (hB _ bg24) (hB _ bg25) hK hP hD hS hA rfl dfX5 (Nat.le_of_ble_eq_true rfl) (Nat.le_of_ble_eq_true rfl) dX4_init_68 (fun q15 H hP hD hS => ?_)
  have hP : va_P (dC, dI) vwCl [(h0, .inr (4, [.ref q1, .ref q3, .ref q5, .ref q7, .ref q9, .ref q11, .ref q13, .null, .int 0, .int 0, .int 0, .int 0])), (q15, .inr (5, [.null, .int 0]))] H := hP
  have hD : va_D A [(h0, .inr (4, [.ref q1, .ref q3, .ref q5, .ref q7, .ref q9, .ref q11, .ref q13, .null, .int 0, .int 0, .int 0, .int 0])), (q15, .inr (5, [.null, .int 0]))] := hD
  refine W.widen (k := 8) (n := 3330) (by decide) (by decide) ?_
  refine lv_dup hx hb dX4_init_71 rfl ?_
  refine lv_bipush (v := 24) hx hb dX4_init_72 (by decide) ?_
  have hPc := hP.sub (ws' := [(q15, .inr (5, [.null, .int 0]))]) [1] rfl
  have hDc := hD.sub (ws' := [(q15, .inr (5, [.null, .int 0]))]) [1] (by decide) rfl
  have hKc := hK.sub (tys' := []) [] rfl
  have hFc := va_free (wc := [(q15, .inr (5, [.null, .int 0]))]) hD hS hA [1] rfl
  refine va_callv (va_runI (As := [.int 24]) (rest := [.ref q15, .ref h0]) ⟨hx, hb, hml, hown, hB⟩ (c_Words24 l dC dI q15 H.size) (cwI 1 hB (bgI bg26) rfl rfl rfl (hB _ bg25) (hB _ bg27) (hB _ bg28) rfl (by decide +kernel) ⟨Nat.le_of_ble_eq_true rfl, Nat.le_of_ble_eq_true rfl⟩) ⟨fun a U g mk q => by obtain ⟨q0, q1, qP, qK, qD⟩ := q; exact ⟨q0, q1, qP, va_K.moved (u := U) (U := U.calling g mk a) (Vm.Alike.refl U.vm) qK, qD⟩, fun U hU hW => ⟨rfl, by rw [hU], by rw [hU]; exact hPc, va_K.moved hW.alike hKc, hDc.weaken (fun _ _ _ _ => trivial)⟩⟩ rfl rfl hl.1 rfl (lv_room (Nat.le_of_ble_eq_true rfl)) dX4_init_74 ⟨Nat.le_of_ble_eq_true rfl, Nat.le_of_ble_eq_true rfl⟩) hS (fun q _ h => hFc q h) hFc (fun u9 t9 H1 locs ht9 hvm hw hB1 hz1 hk1 hS => ?_)
  try dsimp only at hB1 hw
  obtain ⟨hP1, hK1, hD1⟩ := hB1
  rw [ht9] at hP1
  have hK1 := va_K.moved hvm.symm hK1
  obtain ⟨hP, hD⟩ := va_join (wr := [(h0, .inr (4, [.ref q1, .ref q3, .ref q5, .ref q7, .ref q9, .ref q11, .ref q13, .null, .int 0, .int 0, .int 0, .int 0]))]) (w1 := []) hP hD [1] [0] rfl rfl (by decide) (by decide) hk1 hFc hP1 hD1
  have hK := (hK.sub (tys' := []) [] rfl).app hK1
  generalize H1 = H at hP hS ⊢
  have hP : va_P (dC, dI) vwCl [(h0, .inr (4, [.ref q1, .ref q3, .ref q5, .ref q7, .ref q9, .ref q11, .ref q13, .null, .int 0, .int 0, .int 0, .int 0]))] H := hP
  have hD : va_D A [(h0, .inr (4, [.ref q1, .ref q3, .ref q5, .ref q7, .ref q9, .ref q11, .ref q13, .null, .int 0, .int 0, .int 0, .int 0]))] := hD
  have hK : va_K (dC, dI) vwCl [] s := hK
  refine W.widen (k := 9) (n := 3354) (by decide) (by decide) ?_
  refine va_putF (D := (dC, dI)) (ci := 4) (v := .ref q15) (ty := .object "TinyMl$Words") (C := RX4) (T := TX4) (N := 12) hx hb hB inB4 tyX4 tyX4_ok nmX4 hown hK hP hD hS 0 rfl rfl 7 (by decide) (hB _ bg29) (fun _ h9 => h9) rfl hin rfl (by decide +kernel) rfl rfl (Nat.le_of_ble_eq_true rfl) dX4_init_77 (fun H locs hP hD hS => ?_)
  have hP : va_P (dC, dI) vwCl [(h0, .inr (4, [.ref q1, .ref q3, .ref q5, .ref q7, .ref q9, .ref q11, .ref q13, .ref q15, .int 0, .int 0, .int 0, .int 0]))] H := hP
  have hD : va_D A [(h0, .inr (4, [.ref q1, .ref q3, .ref q5, .ref q7, .ref q9, .ref q11, .ref q13, .ref q15, .int 0, .int 0, .int 0, .int 0]))] := hD
  have hP9 := hP.sub (ws' := []) [] rfl
  have hD9 := hD.sub (ws' := []) [] (by decide) rfl
  have hK9 := hK.sub (tys' := []) [] rfl
  refine W.widen (k := 9) (n := 3354) (by decide) (by decide) ?_
  exact W.vret hx hb hr (fun t9 ht9 hW => ⟨⟨(), rfl, trivial, by rw [ht9]; exact hP9, va_K.moved hW.alike hK9, hD9⟩, hS.F ht9⟩) hS.2.2 dX4_init_80
set_option maxHeartbeats 4000000 in
set_option maxRecDepth 100000 in
/-- Typer(terms) -/
theorem c_Typer_init (l : Launch) (dC : Nat → ClassId) (dI : Nat → Nat → Nat) (h0 : Nat) (a1 : Nat) (sz : Nat) : Met l yX3_init (Cond.code yX3_init cX3_init 2 none :: BG) ({ frames := 3, cells := 13, slots := 3468, locals := 53 }) (va_Pc [.ref h0, .ref a1] (fun U => U.heap.size = sz ∧ va_P (dC, dI) vwCl [(h0, .inr (3, [.null, .null, .null, .null, .null, .int 0]))] U.heap ∧ va_K (dC, dI) vwCl [] U ∧ va_D (fun _ => True) [(h0, .inr (3, [.null, .null, .null, .null, .null, .int 0]))])) (va_Qv (fun (u9 : Unit) => True) (fun (_u : Unit) (t9 : State) => va_P (dC, dI) vwCl [] t9.heap ∧ va_K (dC, dI) vwCl [] t9 ∧ va_D (va_A [(h0, .inr (3, [.null, .null, .null, .null, .null, .int 0]))] sz) []) (va_A [(h0, .inr (3, [.null, .null, .null, .null, .null, .int 0]))] sz)) 13 3468 (va_A [(h0, .inr (3, [.null, .null, .null, .null, .null, .int 0]))] sz) := by
  refine Met.ofW (cc := cX3_init) (maxL := 2) (ret := none) (by decide) rfl ?_
  intro p e s m args below meth c s₁ B hml hv
  obtain ⟨rfl, hsz, hP, hK, hD0⟩ := hv
  have hx := B.exec
  have hb := B.bytes
  have hr := B.returns
  have hts := atoms_spec (ws := Cond.code yX3_init cX3_init 2 none :: BG) B.pre
  have hB : ∀ w ∈ BG, w.before _ s = true := fun w h => hts w (List.mem_cons_of_mem _ h)
  have hown : s.vm.findClass RX3 = some m.cls := findClass_of_methodNamed B.named
  have hlocks := B.notSynchronized
  have hin : meth.name = "<init>" := (name_of_methodNamed B.named B.method).1
  subst hsz
  have hD := hD0.self (sz := s.heap.size)
  generalize hAe : va_A [(h0, .inr (3, [.null, .null, .null, .null, .null, .int 0]))] s.heap.size = A at hD ⊢
  have hA : ∀ q : Nat, s.heap.size ≤ q → A q := fun q h => by rw [← hAe]; exact Or.inr h
  have hS : va_S A s.heap s.heap [] := va_S.rf
  have hP : va_P (dC, dI) vwCl [(h0, .inr (3, [.null, .null, .null, .null, .null, .int 0]))] s.heap := hP
  have hl := lv_entry ([.ref h0, .ref a1]) (n := 2) (Nat.le_of_ble_eq_true rfl)
  rw [lg_entry_eq]
  generalize (lg_sl ([.ref h0, .ref a1]) ++ List.replicate (2 - (lg_sl ([.ref h0, .ref a1])).length) Slot.unset).toArray = ls at hl ⊢
  have hl : lv_has ls 2 [(0, .ref h0), (1, .ref a1)] := hl
  refine lv_aload_n hx hb dX3_init_0 rfl (lv_at hl 0 rfl) ?_
  refine W.objInit hx hb hown (hB _ bg30) (hB _ bg1) (hB _ bg2) rfl (by rw [hml]; exact hl.1) rfl dX3_init_1 (Nat.le_of_ble_eq_true rfl) (Nat.le_of_ble_eq_true rfl) ?_
  refine W.eq (g2 := F0 m 4 ls []) rfl ?_
  refine lv_aload_n hx hb dX3_init_4 rfl (lv_at hl 0 rfl) ?_
  refine va_new (ci := 4) (fs := [.null, .null, .null, .null, .null, .null, .null, .null, .int 0, .int 0, .int 0, .int 0]) (C := RX4) (T := TX4) (N := 12) hx hb hB inB4 tyX4 tyX4_ok hown (hB _ bg31) (hB _ bg32) (hB _ bg33) hK hP hD hS hA rfl dfX4 (Nat.le_of_ble_eq_true rfl) (Nat.le_of_ble_eq_true rfl) dX3_init_5 (fun q1 H hP hD hS => ?_)
  have hP : va_P (dC, dI) vwCl [(h0, .inr (3, [.null, .null, .null, .null, .null, .int 0])), (q1, .inr (4, [.null, .null, .null, .null, .null, .null, .null, .null, .int 0, .int 0, .int 0, .int 0]))] H := hP
  have hD : va_D A [(h0, .inr (3, [.null, .null, .null, .null, .null, .int 0])), (q1, .inr (4, [.null, .null, .null, .null, .null, .null, .null, .null, .int 0, .int 0, .int 0, .int 0]))] := hD
  refine W.widen (k := 1) (n := 12) (by decide) (by decide) ?_
  refine lv_dup hx hb dX3_init_8 rfl ?_
  have hPc := hP.sub (ws' := [(q1, .inr (4, [.null, .null, .null, .null, .null, .null, .null, .null, .int 0, .int 0, .int 0, .int 0]))]) [1] rfl
  have hDc := hD.sub (ws' := [(q1, .inr (4, [.null, .null, .null, .null, .null, .null, .null, .null, .int 0, .int 0, .int 0, .int 0]))]) [1] (by decide) rfl
  have hKc := hK.sub (tys' := []) [] rfl
  have hFc := va_free (wc := [(q1, .inr (4, [.null, .null, .null, .null, .null, .null, .null, .null, .int 0, .int 0, .int 0, .int 0]))]) hD hS hA [1] rfl
  refine va_callv (va_runI (As := []) (rest := [.ref q1, .ref h0]) ⟨hx, hb, hml, hown, hB⟩ (c_Types_init l dC dI q1 H.size) (cwI 0 hB (bgI bg34) rfl rfl rfl (hB _ bg33) (hB _ bg35) (hB _ bg36) rfl (by decide +kernel) ⟨Nat.le_of_ble_eq_true rfl, Nat.le_of_ble_eq_true rfl⟩) ⟨fun a U g mk q => by obtain ⟨q0, q1, qP, qK, qD⟩ := q; exact ⟨q0, q1, qP, va_K.moved (u := U) (U := U.calling g mk a) (Vm.Alike.refl U.vm) qK, qD⟩, fun U hU hW => ⟨rfl, by rw [hU], by rw [hU]; exact hPc, va_K.moved hW.alike hKc, hDc.weaken (fun _ _ _ _ => trivial)⟩⟩ rfl rfl hl.1 rfl (lv_room (Nat.le_of_ble_eq_true rfl)) dX3_init_9 ⟨Nat.le_of_ble_eq_true rfl, Nat.le_of_ble_eq_true rfl⟩) hS (fun q _ h => hFc q h) hFc (fun u9 t9 H1 locs ht9 hvm hw hB1 hz1 hk1 hS => ?_)
  try dsimp only at hB1 hw
  obtain ⟨hP1, hK1, hD1⟩ := hB1
  rw [ht9] at hP1
  have hK1 := va_K.moved hvm.symm hK1
  obtain ⟨hP, hD⟩ := va_join (wr := [(h0, .inr (3, [.null, .null, .null, .null, .null, .int 0]))]) (w1 := []) hP hD [1] [0] rfl rfl (by decide) (by decide) hk1 hFc hP1 hD1
  have hK := (hK.sub (tys' := []) [] rfl).app hK1
  generalize H1 = H at hP hS ⊢
  have hP : va_P (dC, dI) vwCl [(h0, .inr (3, [.null, .null, .null, .null, .null, .int 0]))] H := hP
  have hD : va_D A [(h0, .inr (3, [.null, .null, .null, .null, .null, .int 0]))] := hD
  have hK : va_K (dC, dI) vwCl [] s := hK
  refine W.widen (k := 10) (n := 3366) (by decide) (by decide) ?_
  refine va_putF (D := (dC, dI)) (ci := 3) (v := .ref q1) (ty := .object "TinyMl$Types") (C := RX3) (T := TX3) (N := 6) hx hb hB inB3 tyX3 tyX3_ok nmX3 hown hK hP hD hS 0 rfl rfl 1 (by decide) (hB _ bg37) (fun _ h9 => h9) rfl hin rfl (by decide +kernel) rfl rfl (Nat.le_of_ble_eq_true rfl) dX3_init_12 (fun H locs hP hD hS => ?_)
  have hP : va_P (dC, dI) vwCl [(h0, .inr (3, [.null, .ref q1, .null, .null, .null, .int 0]))] H := hP
  have hD : va_D A [(h0, .inr (3, [.null, .ref q1, .null, .null, .null, .int 0]))] := hD
  refine lv_aload_n hx hb dX3_init_15 rfl (lv_at hl 0 rfl) ?_
  refine lv_bipush (v := 34) hx hb dX3_init_16 (by decide) ?_
  refine va_newa (atype := .int) (N' := 34) (a0 := (34, .inl (fun _ => 0))) (ty := .int) (n := 34) hx hb (hB _ bg3) rfl hK hP hD hS hA (fun _ => rfl) (by decide) (by decide) (by decide) (Nat.le_of_ble_eq_true rfl) (Nat.le_of_ble_eq_true rfl) dX3_init_18 (fun q2 cA3 H hK hP hD hS => ?_)
  have hP : va_P (dC, dI) vwCl [(h0, .inr (3, [.null, .ref q1, .null, .null, .null, .int 0])), (q2, .inl (cA3, 34, .inl (fun _ => 0)))] H := hP
  have hD : va_D A [(h0, .inr (3, [.null, .ref q1, .null, .null, .null, .int 0])), (q2, .inl (cA3, 34, .inl (fun _ => 0)))] := hD
  have hK : va_K (dC, dI) vwCl [(cA3, .int)] s := hK
  refine W.widen (k := 11) (n := 3400) (by decide) (by decide) ?_
  refine va_putF (D := (dC, dI)) (ci := 3) (v := .ref q2) (ty := .array .int) (C := RX3) (T := TX3) (N := 6) hx hb hB inB3 tyX3 tyX3_ok nmX3 hown hK hP hD hS 0 rfl rfl 2 (by decide) (hB _ bg38) (fun _ h9 => h9) rfl hin rfl (by decide +kernel) rfl rfl (Nat.le_of_ble_eq_true rfl) dX3_init_20 (fun H locs hP hD hS => ?_)
  have hP : va_P (dC, dI) vwCl [(h0, .inr (3, [.null, .ref q1, .ref q2, .null, .null, .int 0])), (q2, .inl (cA3, 34, .inl (fun _ => 0)))] H := hP
  have hD : va_D A [(h0, .inr (3, [.null, .ref q1, .ref q2, .null, .null, .int 0])), (q2, .inl (cA3, 34, .inl (fun _ => 0)))] := hD
  have hP := hP.sub (ws' := [(h0, .inr (3, [.null, .ref q1, .ref q2, .null, .null, .int 0]))]) [0] rfl
  have hD := hD.sub (ws' := [(h0, .inr (3, [.null, .ref q1, .ref q2, .null, .null, .int 0]))]) [0] (by decide) rfl
  have hK := hK.sub (tys' := []) [] rfl
  refine lv_aload_n hx hb dX3_init_23 rfl (lv_at hl 0 rfl) ?_
  refine lv_bipush (v := 34) hx hb dX3_init_24 (by decide) ?_
  refine va_newa (atype := .int) (N' := 34) (a0 := (34, .inl (fun _ => 0))) (ty := .int) (n := 34) hx hb (hB _ bg3) rfl hK hP hD hS hA (fun _ => rfl) (by decide) (by decide) (by decide) (Nat.le_of_ble_eq_true rfl) (Nat.le_of_ble_eq_true rfl) dX3_init_26 (fun q4 cA5 H hK hP hD hS => ?_)
  have hP : va_P (dC, dI) vwCl [(h0, .inr (3, [.null, .ref q1, .ref q2, .null, .null, .int 0])), (q4, .inl (cA5, 34, .inl (fun _ => 0)))] H := hP
  have hD : va_D A [(h0, .inr (3, [.null, .ref q1, .ref q2, .null, .null, .int 0])), (q4, .inl (cA5, 34, .inl (fun _ => 0)))] := hD
  have hK : va_K (dC, dI) vwCl [(cA5, .int)] s := hK
  refine W.widen (k := 12) (n := 3434) (by decide) (by decide) ?_
  refine va_putF (D := (dC, dI)) (ci := 3) (v := .ref q4) (ty := .array .int) (C := RX3) (T := TX3) (N := 6) hx hb hB inB3 tyX3 tyX3_ok nmX3 hown hK hP hD hS 0 rfl rfl 3 (by decide) (hB _ bg39) (fun _ h9 => h9) rfl hin rfl (by decide +kernel) rfl rfl (Nat.le_of_ble_eq_true rfl) dX3_init_28 (fun H locs hP hD hS => ?_)
  have hP : va_P (dC, dI) vwCl [(h0, .inr (3, [.null, .ref q1, .ref q2, .ref q4, .null, .int 0])), (q4, .inl (cA5, 34, .inl (fun _ => 0)))] H := hP
  have hD : va_D A [(h0, .inr (3, [.null, .ref q1, .ref q2, .ref q4, .null, .int 0])), (q4, .inl (cA5, 34, .inl (fun _ => 0)))] := hD
  have hP := hP.sub (ws' := [(h0, .inr (3, [.null, .ref q1, .ref q2, .ref q4, .null, .int 0]))]) [0] rfl
  have hD := hD.sub (ws' := [(h0, .inr (3, [.null, .ref q1, .ref q2, .ref q4, .null, .int 0]))]) [0] (by decide) rfl
  have hK := hK.sub (tys' := []) [] rfl
  refine lv_aload_n hx hb dX3_init_31 rfl (lv_at hl 0 rfl) ?_
  refine lv_bipush (v := 34) hx hb dX3_init_32 (by decide) ?_
  refine va_newa (atype := .boolean) (N' := 34) (a0 := (34, .inl (fun _ => 0))) (ty := .boolean) (n := 34) hx hb (hB _ bg40) rfl hK hP hD hS hA (fun _ => rfl) (by decide) (by decide) (by decide) (Nat.le_of_ble_eq_true rfl) (Nat.le_of_ble_eq_true rfl) dX3_init_34 (fun q6 cA7 H hK hP hD hS => ?_)
  have hP : va_P (dC, dI) vwCl [(h0, .inr (3, [.null, .ref q1, .ref q2, .ref q4, .null, .int 0])), (q6, .inl (cA7, 34, .inl (fun _ => 0)))] H := hP
  have hD : va_D A [(h0, .inr (3, [.null, .ref q1, .ref q2, .ref q4, .null, .int 0])), (q6, .inl (cA7, 34, .inl (fun _ => 0)))] := hD
  have hK : va_K (dC, dI) vwCl [(cA7, .boolean)] s := hK
  refine W.widen (k := 13) (n := 3468) (by decide) (by decide) ?_
  refine va_putF (D := (dC, dI)) (ci := 3) (v := .ref q6) (ty := .array .boolean) (C := RX3) (T := TX3) (N := 6) hx hb hB inB3 tyX3 tyX3_ok nmX3 hown hK hP hD hS 0 rfl rfl 4 (by decide) (hB _ bg41) (fun _ h9 => h9) rfl hin rfl (by decide +kernel) rfl rfl (Nat.le_of_ble_eq_true rfl) dX3_init_36 (fun H locs hP hD hS => ?_)
  have hP : va_P (dC, dI) vwCl [(h0, .inr (3, [.null, .ref q1, .ref q2, .ref q4, .ref q6, .int 0])), (q6, .inl (cA7, 34, .inl (fun _ => 0)))] H := hP
  have hD : va_D A [(h0, .inr (3, [.null, .ref q1, .ref q2, .ref q4, .ref q6, .int 0])), (q6, .inl (cA7, 34, .inl (fun _ => 0)))] := hD
  have hP := hP.sub (ws' := [(h0, .inr (3, [.null, .ref q1, .ref q2, .ref q4, .ref q6, .int 0]))]) [0] rfl
  have hD := hD.sub (ws' := [(h0, .inr (3, [.null, .ref q1, .ref q2, .ref q4, .ref q6, .int 0]))]) [0] (by decide) rfl
  have hK := hK.sub (tys' := []) [] rfl
  refine lv_aload_n hx hb dX3_init_39 rfl (lv_at hl 0 rfl) ?_
  refine lv_aload_n hx hb dX3_init_40 rfl (lv_at hl 1 rfl) ?_
  refine va_putF (D := (dC, dI)) (ci := 3) (v := .ref a1) (ty := .object "TinyMl$Terms") (C := RX3) (T := TX3) (N := 6) hx hb hB inB3 tyX3 tyX3_ok nmX3 hown hK hP hD hS 0 rfl rfl 0 (by decide) (hB _ bg42) (fun _ h9 => h9) rfl hin rfl (by decide +kernel) rfl rfl (Nat.le_of_ble_eq_true rfl) dX3_init_41 (fun H locs hP hD hS => ?_)
  have hP : va_P (dC, dI) vwCl [(h0, .inr (3, [.ref a1, .ref q1, .ref q2, .ref q4, .ref q6, .int 0]))] H := hP
  have hD : va_D A [(h0, .inr (3, [.ref a1, .ref q1, .ref q2, .ref q4, .ref q6, .int 0]))] := hD
  have hP9 := hP.sub (ws' := []) [] rfl
  have hD9 := hD.sub (ws' := []) [] (by decide) rfl
  have hK9 := hK.sub (tys' := []) [] rfl
  refine W.widen (k := 13) (n := 3468) (by decide) (by decide) ?_
  exact W.vret hx hb hr (fun t9 ht9 hW => ⟨⟨(), rfl, trivial, by rw [ht9]; exact hP9, va_K.moved hW.alike hK9, hD9⟩, hS.F ht9⟩) hS.2.2 dX3_init_44
set_option maxHeartbeats 4000000 in
set_option maxRecDepth 100000 in
/-- Machine(terms) -/
theorem c_Machine_init (l : Launch) (dC : Nat → ClassId) (dI : Nat → Nat → Nat) (h0 : Nat) (a1 : Nat) (sz : Nat) : Met l yX0_init (Cond.code yX0_init cX0_init 2 none :: BG) ({ frames := 1, cells := 7, slots := 2696, locals := 12 }) (va_Pc [.ref h0, .ref a1] (fun U => U.heap.size = sz ∧ va_P (dC, dI) vwCl [(h0, .inr (0, [.null, .null, .null, .null, .null, .null, .null, .null, .int 0, .int 0, .int 0, .int 0, .int 0, .int 0, .int 0, .int 0]))] U.heap ∧ va_K (dC, dI) vwCl [] U ∧ va_D (fun _ => True) [(h0, .inr (0, [.null, .null, .null, .null, .null, .null, .null, .null, .int 0, .int 0, .int 0, .int 0, .int 0, .int 0, .int 0, .int 0]))])) (va_Qv (fun (u : Nat → Nat) => True) (fun (u : Nat → Nat) (t9 : State) => va_P (dC, dI) vwCl [(h0, .inr (0, [.ref a1, .ref (u 1), .ref (u 2), .ref (u 3), .ref (u 4), .ref (u 5), .ref (u 6), .ref (u 7), .int 0, .int 0, .int 0, .int 0, .int 0, .int 0, .int 0, .int 0]))] t9.heap ∧ va_K (dC, dI) vwCl [] t9 ∧ va_D (va_A [(h0, .inr (0, [.null, .null, .null, .null, .null, .null, .null, .null, .int 0, .int 0, .int 0, .int 0, .int 0, .int 0, .int 0, .int 0]))] sz) [(h0, .inr (0, [.ref a1, .ref (u 1), .ref (u 2), .ref (u 3), .ref (u 4), .ref (u 5), .ref (u 6), .ref (u 7), .int 0, .int 0, .int 0, .int 0, .int 0, .int 0, .int 0, .int 0]))]) (va_A [(h0, .inr (0, [.null, .null, .null, .null, .null, .null, .null, .null, .int 0, .int 0, .int 0, .int 0, .int 0, .int 0, .int 0, .int 0]))] sz)) 7 2696 (va_A [(h0, .inr (0, [.null, .null, .null, .null, .null, .null, .null, .null, .int 0, .int 0, .int 0, .int 0, .int 0, .int 0, .int 0, .int 0]))] sz) := by
  refine Met.ofW (cc := cX0_init) (maxL := 2) (ret := none) (by decide) rfl ?_
  intro p e s m args below meth c s₁ B hml hv
  obtain ⟨rfl, hsz, hP, hK, hD0⟩ := hv
  have hx := B.exec
  have hb := B.bytes
  have hr := B.returns
  have hts := atoms_spec (ws := Cond.code yX0_init cX0_init 2 none :: BG) B.pre
  have hB : ∀ w ∈ BG, w.before _ s = true := fun w h => hts w (List.mem_cons_of_mem _ h)
  have hown : s.vm.findClass RX0 = some m.cls := findClass_of_methodNamed B.named
  have hlocks := B.notSynchronized
  have hin : meth.name = "<init>" := (name_of_methodNamed B.named B.method).1
  subst hsz
  have hD := hD0.self (sz := s.heap.size)
  generalize hAe : va_A [(h0, .inr (0, [.null, .null, .null, .null, .null, .null, .null, .null, .int 0, .int 0, .int 0, .int 0, .int 0, .int 0, .int 0, .int 0]))] s.heap.size = A at hD ⊢
  have hA : ∀ q : Nat, s.heap.size ≤ q → A q := fun q h => by rw [← hAe]; exact Or.inr h
  have hS : va_S A s.heap s.heap [] := va_S.rf
  have hP : va_P (dC, dI) vwCl [(h0, .inr (0, [.null, .null, .null, .null, .null, .null, .null, .null, .int 0, .int 0, .int 0, .int 0, .int 0, .int 0, .int 0, .int 0]))] s.heap := hP
  have hl := lv_entry ([.ref h0, .ref a1]) (n := 2) (Nat.le_of_ble_eq_true rfl)
  rw [lg_entry_eq]
  generalize (lg_sl ([.ref h0, .ref a1]) ++ List.replicate (2 - (lg_sl ([.ref h0, .ref a1])).length) Slot.unset).toArray = ls at hl ⊢
  have hl : lv_has ls 2 [(0, .ref h0), (1, .ref a1)] := hl
  refine lv_aload_n hx hb dX0_init_0 rfl (lv_at hl 0 rfl) ?_
  refine W.objInit hx hb hown (hB _ bg43) (hB _ bg1) (hB _ bg2) rfl (by rw [hml]; exact hl.1) rfl dX0_init_1 (Nat.le_of_ble_eq_true rfl) (Nat.le_of_ble_eq_true rfl) ?_
  refine W.eq (g2 := F0 m 4 ls []) rfl ?_
  refine lv_aload_n hx hb dX0_init_4 rfl (lv_at hl 0 rfl) ?_
  refine lv_sipush (v := 416) hx hb dX0_init_5 (by decide) ?_
  refine va_newa (atype := .int) (N' := 416) (a0 := (416, .inl (fun _ => 0))) (ty := .int) (n := 416) hx hb (hB _ bg3) rfl hK hP hD hS hA (fun _ => rfl) (by decide) (by decide) (by decide) (Nat.le_of_ble_eq_true rfl) (Nat.le_of_ble_eq_true rfl) dX0_init_8 (fun q1 cA2 H hK hP hD hS => ?_)
  have hP : va_P (dC, dI) vwCl [(h0, .inr (0, [.null, .null, .null, .null, .null, .null, .null, .null, .int 0, .int 0, .int 0, .int 0, .int 0, .int 0, .int 0, .int 0])), (q1, .inl (cA2, 416, .inl (fun _ => 0)))] H := hP
  have hD : va_D A [(h0, .inr (0, [.null, .null, .null, .null, .null, .null, .null, .null, .int 0, .int 0, .int 0, .int 0, .int 0, .int 0, .int 0, .int 0])), (q1, .inl (cA2, 416, .inl (fun _ => 0)))] := hD
  have hK : va_K (dC, dI) vwCl [(cA2, .int)] s := hK
  refine W.widen (k := 1) (n := 416) (by decide) (by decide) ?_
  refine va_putF (D := (dC, dI)) (ci := 0) (v := .ref q1) (ty := .array .int) (C := RX0) (T := TX0) (N := 16) hx hb hB inB0 tyX0 tyX0_ok nmX0 hown hK hP hD hS 0 rfl rfl 1 (by decide) (hB _ bg44) (fun _ h9 => h9) rfl hin rfl (by decide +kernel) rfl rfl (Nat.le_of_ble_eq_true rfl) dX0_init_10 (fun H locs hP hD hS => ?_)
  have hP : va_P (dC, dI) vwCl [(h0, .inr (0, [.null, .ref q1, .null, .null, .null, .null, .null, .null, .int 0, .int 0, .int 0, .int 0, .int 0, .int 0, .int 0, .int 0])), (q1, .inl (cA2, 416, .inl (fun _ => 0)))] H := hP
  have hD : va_D A [(h0, .inr (0, [.null, .ref q1, .null, .null, .null, .null, .null, .null, .int 0, .int 0, .int 0, .int 0, .int 0, .int 0, .int 0, .int 0])), (q1, .inl (cA2, 416, .inl (fun _ => 0)))] := hD
  have hP := hP.sub (ws' := [(h0, .inr (0, [.null, .ref q1, .null, .null, .null, .null, .null, .null, .int 0, .int 0, .int 0, .int 0, .int 0, .int 0, .int 0, .int 0]))]) [0] rfl
  have hD := hD.sub (ws' := [(h0, .inr (0, [.null, .ref q1, .null, .null, .null, .null, .null, .null, .int 0, .int 0, .int 0, .int 0, .int 0, .int 0, .int 0, .int 0]))]) [0] (by decide) rfl
  have hK := hK.sub (tys' := []) [] rfl
  refine lv_aload_n hx hb dX0_init_13 rfl (lv_at hl 0 rfl) ?_
  refine lv_sipush (v := 416) hx hb dX0_init_14 (by decide) ?_
  refine va_newa (atype := .int) (N' := 416) (a0 := (416, .inl (fun _ => 0))) (ty := .int) (n := 416) hx hb (hB _ bg3) rfl hK hP hD hS hA (fun _ => rfl) (by decide) (by decide) (by decide) (Nat.le_of_ble_eq_true rfl) (Nat.le_of_ble_eq_true rfl) dX0_init_17 (fun q3 cA4 H hK hP hD hS => ?_)
  have hP : va_P (dC, dI) vwCl [(h0, .inr (0, [.null, .ref q1, .null, .null, .null, .null, .null, .null, .int 0, .int 0, .int 0, .int 0, .int 0, .int 0, .int 0, .int 0])), (q3, .inl (cA4, 416, .inl (fun _ => 0)))] H := hP
  have hD : va_D A [(h0, .inr (0, [.null, .ref q1, .null, .null, .null, .null, .null, .null, .int 0, .int 0, .int 0, .int 0, .int 0, .int 0, .int 0, .int 0])), (q3, .inl (cA4, 416, .inl (fun _ => 0)))] := hD
  have hK : va_K (dC, dI) vwCl [(cA4, .int)] s := hK
  refine W.widen (k := 2) (n := 832) (by decide) (by decide) ?_
  refine va_putF (D := (dC, dI)) (ci := 0) (v := .ref q3) (ty := .array .int) (C := RX0) (T := TX0) (N := 16) hx hb hB inB0 tyX0 tyX0_ok nmX0 hown hK hP hD hS 0 rfl rfl 2 (by decide) (hB _ bg45) (fun _ h9 => h9) rfl hin rfl (by decide +kernel) rfl rfl (Nat.le_of_ble_eq_true rfl) dX0_init_19 (fun H locs hP hD hS => ?_)
  have hP : va_P (dC, dI) vwCl [(h0, .inr (0, [.null, .ref q1, .ref q3, .null, .null, .null, .null, .null, .int 0, .int 0, .int 0, .int 0, .int 0, .int 0, .int 0, .int 0])), (q3, .inl (cA4, 416, .inl (fun _ => 0)))] H := hP
  have hD : va_D A [(h0, .inr (0, [.null, .ref q1, .ref q3, .null, .null, .null, .null, .null, .int 0, .int 0, .int 0, .int 0, .int 0, .int 0, .int 0, .int 0])), (q3, .inl (cA4, 416, .inl (fun _ => 0)))] := hD
  have hP := hP.sub (ws' := [(h0, .inr (0, [.null, .ref q1, .ref q3, .null, .null, .null, .null, .null, .int 0, .int 0, .int 0, .int 0, .int 0, .int 0, .int 0, .int 0]))]) [0] rfl
  have hD := hD.sub (ws' := [(h0, .inr (0, [.null, .ref q1, .ref q3, .null, .null, .null, .null, .null, .int 0, .int 0, .int 0, .int 0, .int 0, .int 0, .int 0, .int 0]))]) [0] (by decide) rfl
  have hK := hK.sub (tys' := []) [] rfl
  refine lv_aload_n hx hb dX0_init_22 rfl (lv_at hl 0 rfl) ?_
  refine lv_sipush (v := 416) hx hb dX0_init_23 (by decide) ?_
  refine va_newa (atype := .int) (N' := 416) (a0 := (416, .inl (fun _ => 0))) (ty := .int) (n := 416) hx hb (hB _ bg3) rfl hK hP hD hS hA (fun _ => rfl) (by decide) (by decide) (by decide) (Nat.le_of_ble_eq_true rfl) (Nat.le_of_ble_eq_true rfl) dX0_init_26 (fun q5 cA6 H hK hP hD hS => ?_)
  have hP : va_P (dC, dI) vwCl [(h0, .inr (0, [.null, .ref q1, .ref q3, .null, .null, .null, .null, .null, .int 0, .int 0, .int 0, .int 0, .int 0, .int 0, .int 0, .int 0])), (q5, .inl (cA6, 416, .inl (fun _ => 0)))] H := hP
  have hD : va_D A [(h0, .inr (0, [.null, .ref q1, .ref q3, .null, .null, .null, .null, .null, .int 0, .int 0, .int 0, .int 0, .int 0, .int 0, .int 0, .int 0])), (q5, .inl (cA6, 416, .inl (fun _ => 0)))] := hD
  have hK : va_K (dC, dI) vwCl [(cA6, .int)] s := hK
  refine W.widen (k := 3) (n := 1248) (by decide) (by decide) ?_
  refine va_putF (D := (dC, dI)) (ci := 0) (v := .ref q5) (ty := .array .int) (C := RX0) (T := TX0) (N := 16) hx hb hB inB0 tyX0 tyX0_ok nmX0 hown hK hP hD hS 0 rfl rfl 3 (by decide) (hB _ bg46) (fun _ h9 => h9) rfl hin rfl (by decide +kernel) rfl rfl (Nat.le_of_ble_eq_true rfl) dX0_init_28 (fun H locs hP hD hS => ?_)
  have hP : va_P (dC, dI) vwCl [(h0, .inr (0, [.null, .ref q1, .ref q3, .ref q5, .null, .null, .null, .null, .int 0, .int 0, .int 0, .int 0, .int 0, .int 0, .int 0, .int 0])), (q5, .inl (cA6, 416, .inl (fun _ => 0)))] H := hP
  have hD : va_D A [(h0, .inr (0, [.null, .ref q1, .ref q3, .ref q5, .null, .null, .null, .null, .int 0, .int 0, .int 0, .int 0, .int 0, .int 0, .int 0, .int 0])), (q5, .inl (cA6, 416, .inl (fun _ => 0)))] := hD
  have hP := hP.sub (ws' := [(h0, .inr (0, [.null, .ref q1, .ref q3, .ref q5, .null, .null, .null, .null, .int 0, .int 0, .int 0, .int 0, .int 0, .int 0, .int 0, .int 0]))]) [0] rfl
  have hD := hD.sub (ws' := [(h0, .inr (0, [.null, .ref q1, .ref q3, .ref q5, .null, .null, .null, .null, .int 0, .int 0, .int 0, .int 0, .int 0, .int 0, .int 0, .int 0]))]) [0] (by decide) rfl
  have hK := hK.sub (tys' := []) [] rfl
  refine lv_aload_n hx hb dX0_init_31 rfl (lv_at hl 0 rfl) ?_
  refine lv_sipush (v := 416) hx hb dX0_init_32 (by decide) ?_
  refine va_newa (atype := .int) (N' := 416) (a0 := (416, .inl (fun _ => 0))) (ty := .int) (n := 416) hx hb (hB _ bg3) rfl hK hP hD hS hA (fun _ => rfl) (by decide) (by decide) (by decide) (Nat.le_of_ble_eq_true rfl) (Nat.le_of_ble_eq_true rfl) dX0_init_35 (fun q7 cA8 H hK hP hD hS => ?_)
  have hP : va_P (dC, dI) vwCl [(h0, .inr (0, [.null, .ref q1, .ref q3, .ref q5, .null, .null, .null, .null, .int 0, .int 0, .int 0, .int 0, .int 0, .int 0, .int 0, .int 0])), (q7, .inl (cA8, 416, .inl (fun _ => 0)))] H := hP
  have hD : va_D A [(h0, .inr (0, [.null, .ref q1, .ref q3, .ref q5, .null, .null, .null, .null, .int 0, .int 0, .int 0, .int 0, .int 0, .int 0, .int 0, .int 0])), (q7, .inl (cA8, 416, .inl (fun _ => 0)))] := hD
  have hK : va_K (dC, dI) vwCl [(cA8, .int)] s := hK
  refine W.widen (k := 4) (n := 1664) (by decide) (by decide) ?_
  refine va_putF (D := (dC, dI)) (ci := 0) (v := .ref q7) (ty := .array .int) (C := RX0) (T := TX0) (N := 16) hx hb hB inB0 tyX0 tyX0_ok nmX0 hown hK hP hD hS 0 rfl rfl 4 (by decide) (hB _ bg47) (fun _ h9 => h9) rfl hin rfl (by decide +kernel) rfl rfl (Nat.le_of_ble_eq_true rfl) dX0_init_37 (fun H locs hP hD hS => ?_)
  have hP : va_P (dC, dI) vwCl [(h0, .inr (0, [.null, .ref q1, .ref q3, .ref q5, .ref q7, .null, .null, .null, .int 0, .int 0, .int 0, .int 0, .int 0, .int 0, .int 0, .int 0])), (q7, .inl (cA8, 416, .inl (fun _ => 0)))] H := hP
  have hD : va_D A [(h0, .inr (0, [.null, .ref q1, .ref q3, .ref q5, .ref q7, .null, .null, .null, .int 0, .int 0, .int 0, .int 0, .int 0, .int 0, .int 0, .int 0])), (q7, .inl (cA8, 416, .inl (fun _ => 0)))] := hD
  have hP := hP.sub (ws' := [(h0, .inr (0, [.null, .ref q1, .ref q3, .ref q5, .ref q7, .null, .null, .null, .int 0, .int 0, .int 0, .int 0, .int 0, .int 0, .int 0, .int 0]))]) [0] rfl
  have hD := hD.sub (ws' := [(h0, .inr (0, [.null, .ref q1, .ref q3, .ref q5, .ref q7, .null, .null, .null, .int 0, .int 0, .int 0, .int 0, .int 0, .int 0, .int 0, .int 0]))]) [0] (by decide) rfl
  have hK := hK.sub (tys' := []) [] rfl
  refine lv_aload_n hx hb dX0_init_40 rfl (lv_at hl 0 rfl) ?_
  refine lv_sipush (v := 416) hx hb dX0_init_41 (by decide) ?_
  refine va_newa (atype := .int) (N' := 416) (a0 := (416, .inl (fun _ => 0))) (ty := .int) (n := 416) hx hb (hB _ bg3) rfl hK hP hD hS hA (fun _ => rfl) (by decide) (by decide) (by decide) (Nat.le_of_ble_eq_true rfl) (Nat.le_of_ble_eq_true rfl) dX0_init_44 (fun q9 cA10 H hK hP hD hS => ?_)
  have hP : va_P (dC, dI) vwCl [(h0, .inr (0, [.null, .ref q1, .ref q3, .ref q5, .ref q7, .null, .null, .null, .int 0, .int 0, .int 0, .int 0, .int 0, .int 0, .int 0, .int 0])), (q9, .inl (cA10, 416, .inl (fun _ => 0)))] H := hP
  have hD : va_D A [(h0, .inr (0, [.null, .ref q1, .ref q3, .ref q5, .ref q7, .null, .null, .null, .int 0, .int 0, .int 0, .int 0, .int 0, .int 0, .int 0, .int 0])), (q9, .inl (cA10, 416, .inl (fun _ => 0)))] := hD
  have hK : va_K (dC, dI) vwCl [(cA10, .int)] s := hK
  refine W.widen (k := 5) (n := 2080) (by decide) (by decide) ?_
  refine va_putF (D := (dC, dI)) (ci := 0) (v := .ref q9) (ty := .array .int) (C := RX0) (T := TX0) (N := 16) hx hb hB inB0 tyX0 tyX0_ok nmX0 hown hK hP hD hS 0 rfl rfl 5 (by decide) (hB _ bg48) (fun _ h9 => h9) rfl hin rfl (by decide +kernel) rfl rfl (Nat.le_of_ble_eq_true rfl) dX0_init_46 (fun H locs hP hD hS => ?_)
  have hP : va_P (dC, dI) vwCl [(h0, .inr (0, [.null, .ref q1, .ref q3, .ref q5, .ref q7, .ref q9, .null, .null, .int 0, .int 0, .int 0, .int 0, .int 0, .int 0, .int 0, .int 0])), (q9, .inl (cA10, 416, .inl (fun _ => 0)))] H := hP
  have hD : va_D A [(h0, .inr (0, [.null, .ref q1, .ref q3, .ref q5, .ref q7, .ref q9, .null, .null, .int 0, .int 0, .int 0, .int 0, .int 0, .int 0, .int 0, .int 0])), (q9, .inl (cA10, 416, .inl (fun _ => 0)))] := hD
  have hP := hP.sub (ws' := [(h0, .inr (0, [.null, .ref q1, .ref q3, .ref q5, .ref q7, .ref q9, .null, .null, .int 0, .int 0, .int 0, .int 0, .int 0, .int 0, .int 0, .int 0]))]) [0] rfl
  have hD := hD.sub (ws' := [(h0, .inr (0, [.null, .ref q1, .ref q3, .ref q5, .ref q7, .ref q9, .null, .null, .int 0, .int 0, .int 0, .int 0, .int 0, .int 0, .int 0, .int 0]))]) [0] (by decide) rfl
  have hK := hK.sub (tys' := []) [] rfl
  refine lv_aload_n hx hb dX0_init_49 rfl (lv_at hl 0 rfl) ?_
  refine lv_sipush (v := 416) hx hb dX0_init_50 (by decide) ?_
  refine va_newa (atype := .int) (N' := 416) (a0 := (416, .inl (fun _ => 0))) (ty := .int) (n := 416) hx hb (hB _ bg3) rfl hK hP hD hS hA (fun _ => rfl) (by decide) (by decide) (by decide) (Nat.le_of_ble_eq_true rfl) (Nat.le_of_ble_eq_true rfl) dX0_init_53 (fun q11 cA12 H hK hP hD hS => ?_)
  have hP : va_P (dC, dI) vwCl [(h0, .inr (0, [.null, .ref q1, .ref q3, .ref q5, .ref q7, .ref q9, .null, .null, .int 0, .int 0, .int 0, .int 0, .int 0, .int 0, .int 0, .int 0])), (q11, .inl (cA12, 416, .inl (fun _ => 0)))] H := hP
  have hD : va_D A [(h0, .inr (0, [.null, .ref q1, .ref q3, .ref q5, .ref q7, .ref q9, .null, .null, .int 0, .int 0, .int 0, .int 0, .int 0, .int 0, .int 0, .int 0])), (q11, .inl (cA12, 416, .inl (fun _ => 0)))] := hD
  have hK : va_K (dC, dI) vwCl [(cA12, .int)] s := hK
  refine W.widen (k := 6) (n := 2496) (by decide) (by decide) ?_
  refine va_putF (D := (dC, dI)) (ci := 0) (v := .ref q11) (ty := .array .int) (C := RX0) (T := TX0) (N := 16) hx hb hB inB0 tyX0 tyX0_ok nmX0 hown hK hP hD hS 0 rfl rfl 6 (by decide) (hB _ bg49) (fun _ h9 => h9) rfl hin rfl (by decide +kernel) rfl rfl (Nat.le_of_ble_eq_true rfl) dX0_init_55 (fun H locs hP hD hS => ?_)
  have hP : va_P (dC, dI) vwCl [(h0, .inr (0, [.null, .ref q1, .ref q3, .ref q5, .ref q7, .ref q9, .ref q11, .null, .int 0, .int 0, .int 0, .int 0, .int 0, .int 0, .int 0, .int 0])), (q11, .inl (cA12, 416, .inl (fun _ => 0)))] H := hP
  have hD : va_D A [(h0, .inr (0, [.null, .ref q1, .ref q3, .ref q5, .ref q7, .ref q9, .ref q11, .null, .int 0, .int 0, .int 0, .int 0, .int 0, .int 0, .int 0, .int 0])), (q11, .inl (cA12, 416, .inl (fun _ => 0)))] := hD
  have hP := hP.sub (ws' := [(h0, .inr (0, [.null, .ref q1, .ref q3, .ref q5, .ref q7, .ref q9, .ref q11, .null, .int 0, .int 0, .int 0, .int 0, .int 0, .int 0, .int 0, .int 0]))]) [0] rfl
  have hD := hD.sub (ws' := [(h0, .inr (0, [.null, .ref q1, .ref q3, .ref q5, .ref q7, .ref q9, .ref q11, .null, .int 0, .int 0, .int 0, .int 0, .int 0, .int 0, .int 0, .int 0]))]) [0] (by decide) rfl
  have hK := hK.sub (tys' := []) [] rfl
  refine lv_aload_n hx hb dX0_init_58 rfl (lv_at hl 0 rfl) ?_
  refine lv_sipush (v := 200) hx hb dX0_init_59 (by decide) ?_
  refine va_newa (atype := .int) (N' := 200) (a0 := (200, .inl (fun _ => 0))) (ty := .int) (n := 200) hx hb (hB _ bg3) rfl hK hP hD hS hA (fun _ => rfl) (by decide) (by decide) (by decide) (Nat.le_of_ble_eq_true rfl) (Nat.le_of_ble_eq_true rfl) dX0_init_62 (fun q13 cA14 H hK hP hD hS => ?_)
  have hP : va_P (dC, dI) vwCl [(h0, .inr (0, [.null, .ref q1, .ref q3, .ref q5, .ref q7, .ref q9, .ref q11, .null, .int 0, .int 0, .int 0, .int 0, .int 0, .int 0, .int 0, .int 0])), (q13, .inl (cA14, 200, .inl (fun _ => 0)))] H := hP
  have hD : va_D A [(h0, .inr (0, [.null, .ref q1, .ref q3, .ref q5, .ref q7, .ref q9, .ref q11, .null, .int 0, .int 0, .int 0, .int 0, .int 0, .int 0, .int 0, .int 0])), (q13, .inl (cA14, 200, .inl (fun _ => 0)))] := hD
  have hK : va_K (dC, dI) vwCl [(cA14, .int)] s := hK
  refine W.widen (k := 7) (n := 2696) (by decide) (by decide) ?_
  refine va_putF (D := (dC, dI)) (ci := 0) (v := .ref q13) (ty := .array .int) (C := RX0) (T := TX0) (N := 16) hx hb hB inB0 tyX0 tyX0_ok nmX0 hown hK hP hD hS 0 rfl rfl 7 (by decide) (hB _ bg50) (fun _ h9 => h9) rfl hin rfl (by decide +kernel) rfl rfl (Nat.le_of_ble_eq_true rfl) dX0_init_64 (fun H locs hP hD hS => ?_)
  have hP : va_P (dC, dI) vwCl [(h0, .inr (0, [.null, .ref q1, .ref q3, .ref q5, .ref q7, .ref q9, .ref q11, .ref q13, .int 0, .int 0, .int 0, .int 0, .int 0, .int 0, .int 0, .int 0])), (q13, .inl (cA14, 200, .inl (fun _ => 0)))] H := hP
  have hD : va_D A [(h0, .inr (0, [.null, .ref q1, .ref q3, .ref q5, .ref q7, .ref q9, .ref q11, .ref q13, .int 0, .int 0, .int 0, .int 0, .int 0, .int 0, .int 0, .int 0])), (q13, .inl (cA14, 200, .inl (fun _ => 0)))] := hD
  have hP := hP.sub (ws' := [(h0, .inr (0, [.null, .ref q1, .ref q3, .ref q5, .ref q7, .ref q9, .ref q11, .ref q13, .int 0, .int 0, .int 0, .int 0, .int 0, .int 0, .int 0, .int 0]))]) [0] rfl
  have hD := hD.sub (ws' := [(h0, .inr (0, [.null, .ref q1, .ref q3, .ref q5, .ref q7, .ref q9, .ref q11, .ref q13, .int 0, .int 0, .int 0, .int 0, .int 0, .int 0, .int 0, .int 0]))]) [0] (by decide) rfl
  have hK := hK.sub (tys' := []) [] rfl
  refine lv_aload_n hx hb dX0_init_67 rfl (lv_at hl 0 rfl) ?_
  refine lv_aload_n hx hb dX0_init_68 rfl (lv_at hl 1 rfl) ?_
  refine va_putF (D := (dC, dI)) (ci := 0) (v := .ref a1) (ty := .object "TinyMl$Terms") (C := RX0) (T := TX0) (N := 16) hx hb hB inB0 tyX0 tyX0_ok nmX0 hown hK hP hD hS 0 rfl rfl 0 (by decide) (hB _ bg51) (fun _ h9 => h9) rfl hin rfl (by decide +kernel) rfl rfl (Nat.le_of_ble_eq_true rfl) dX0_init_69 (fun H locs hP hD hS => ?_)
  have hP : va_P (dC, dI) vwCl [(h0, .inr (0, [.ref a1, .ref q1, .ref q3, .ref q5, .ref q7, .ref q9, .ref q11, .ref q13, .int 0, .int 0, .int 0, .int 0, .int 0, .int 0, .int 0, .int 0]))] H := hP
  have hD : va_D A [(h0, .inr (0, [.ref a1, .ref q1, .ref q3, .ref q5, .ref q7, .ref q9, .ref q11, .ref q13, .int 0, .int 0, .int 0, .int 0, .int 0, .int 0, .int 0, .int 0]))] := hD
  have hP9 := hP.sub (ws' := [(h0, .inr (0, [.ref a1, .ref q1, .ref q3, .ref q5, .ref q7, .ref q9, .ref q11, .ref q13, .int 0, .int 0, .int 0, .int 0, .int 0, .int 0, .int 0, .int 0]))]) [0] rfl
  have hD9 := hD.sub (ws' := [(h0, .inr (0, [.ref a1, .ref q1, .ref q3, .ref q5, .ref q7, .ref q9, .ref q11, .ref q13, .int 0, .int 0, .int 0, .int 0, .int 0, .int 0, .int 0, .int 0]))]) [0] (by decide) rfl
  have hK9 := hK.sub (tys' := []) [] rfl
  refine W.widen (k := 7) (n := 2696) (by decide) (by decide) ?_
  exact W.vret hx hb hr (fun t9 ht9 hW => ⟨⟨(fun k => [a1, q1, q3, q5, q7, q9, q11, q13, 0, 0, 0, 0, 0, 0, 0, 0].getD k 0), rfl, trivial, by rw [ht9]; exact hP9, va_K.moved hW.alike hK9, hD9⟩, hS.F ht9⟩) hS.2.2 dX0_init_72
set_option maxHeartbeats 4000000 in
set_option maxRecDepth 100000 in
/-- TinyMl() -/
theorem c_TinyMl_init (l : Launch) (dC : Nat → ClassId) (dI : Nat → Nat → Nat) (h0 : Nat) (sz : Nat) : Met l yX6_init (Cond.code yX6_init cX6_init 1 none :: BG) ({ frames := 4, cells := 34, slots := 7302, locals := 74 }) (va_Pc [.ref h0] (fun U => U.heap.size = sz ∧ va_P (dC, dI) vwCl [(h0, .inr (6, [.null, .null, .null, .null, .null, .null, .null, .int 0, .int 0, .int 0]))] U.heap ∧ va_K (dC, dI) vwCl [] U ∧ va_D (fun _ => True) [(h0, .inr (6, [.null, .null, .null, .null, .null, .null, .null, .int 0, .int 0, .int 0]))])) (va_Qv (fun (u9 : (Nat → Nat) × (Nat → Nat) × (Nat → Nat) × ClassId) => True) (fun (u9 : (Nat → Nat) × (Nat → Nat) × (Nat → Nat) × ClassId) (t9 : State) => match u9 with | (u, v, w, cA) => va_P (dC, dI) vwCl [(h0, .inr (6, CO u 0 0 0)), (u 0, .inl (cA, 60, .inl (fun _ => 0))), (u 1, .inr (2, [.ref (v 0), .ref (v 1), .ref (v 2), .ref (v 3), .ref (v 4), .int 0])), (u 2, .inr (1, [.ref (u 0), .ref (u 1), .int 0, .int 0, .int 0, .int (-1)])), (u 4, .inr (0, [.ref (u 1), .ref (w 1), .ref (w 2), .ref (w 3), .ref (w 4), .ref (w 5), .ref (w 6), .ref (w 7), .int 0, .int 0, .int 0, .int 0, .int 0, .int 0, .int 0, .int 0]))] t9.heap ∧ va_K (dC, dI) vwCl [(cA, .int)] t9 ∧ va_D (va_A [(h0, .inr (6, [.null, .null, .null, .null, .null, .null, .null, .int 0, .int 0, .int 0]))] sz) [(h0, .inr (6, CO u 0 0 0)), (u 0, .inl (cA, 60, .inl (fun _ => 0))), (u 1, .inr (2, [.ref (v 0), .ref (v 1), .ref (v 2), .ref (v 3), .ref (v 4), .int 0])), (u 2, .inr (1, [.ref (u 0), .ref (u 1), .int 0, .int 0, .int 0, .int (-1)])), (u 4, .inr (0, [.ref (u 1), .ref (w 1), .ref (w 2), .ref (w 3), .ref (w 4), .ref (w 5), .ref (w 6), .ref (w 7), .int 0, .int 0, .int 0, .int 0, .int 0, .int 0, .int 0, .int 0]))]) (va_A [(h0, .inr (6, [.null, .null, .null, .null, .null, .null, .null, .int 0, .int 0, .int 0]))] sz)) 34 7302 (va_A [(h0, .inr (6, [.null, .null, .null, .null, .null, .null, .null, .int 0, .int 0, .int 0]))] sz) := by
  refine Met.ofW (cc := cX6_init) (maxL := 1) (ret := none) (by decide) rfl ?_
  intro p e s m args below meth c s₁ B hml hv
  obtain ⟨rfl, hsz, hP, hK, hD0⟩ := hv
  have hx := B.exec
  have hb := B.bytes
  have hr := B.returns
  have hts := atoms_spec (ws := Cond.code yX6_init cX6_init 1 none :: BG) B.pre
  have hB : ∀ w ∈ BG, w.before _ s = true := fun w h => hts w (List.mem_cons_of_mem _ h)
  have hown : s.vm.findClass RX6 = some m.cls := findClass_of_methodNamed B.named
  have hlocks := B.notSynchronized
  have hin : meth.name = "<init>" := (name_of_methodNamed B.named B.method).1
  subst hsz
  have hD := hD0.self (sz := s.heap.size)
  generalize hAe : va_A [(h0, .inr (6, [.null, .null, .null, .null, .null, .null, .null, .int 0, .int 0, .int 0]))] s.heap.size = A at hD ⊢
  have hA : ∀ q : Nat, s.heap.size ≤ q → A q := fun q h => by rw [← hAe]; exact Or.inr h
  have hS : va_S A s.heap s.heap [] := va_S.rf
  have hP : va_P (dC, dI) vwCl [(h0, .inr (6, [.null, .null, .null, .null, .null, .null, .null, .int 0, .int 0, .int 0]))] s.heap := hP
  have hl := lv_entry ([.ref h0]) (n := 1) (Nat.le_of_ble_eq_true rfl)
  rw [lg_entry_eq]
  generalize (lg_sl ([.ref h0]) ++ List.replicate (1 - (lg_sl ([.ref h0])).length) Slot.unset).toArray = ls at hl ⊢
  have hl : lv_has ls 1 [(0, .ref h0)] := hl
  refine lv_aload_n hx hb dX6_init_0 rfl (lv_at hl 0 rfl) ?_
  refine W.objInit hx hb hown (hB _ bg52) (hB _ bg1) (hB _ bg2) rfl (by rw [hml]; exact hl.1) rfl dX6_init_1 (Nat.le_of_ble_eq_true rfl) (Nat.le_of_ble_eq_true rfl) ?_
  refine W.eq (g2 := F0 m 4 ls []) rfl ?_
  refine lv_aload_n hx hb dX6_init_4 rfl (lv_at hl 0 rfl) ?_
  refine lv_bipush (v := 60) hx hb dX6_init_5 (by decide) ?_
  refine va_newa (atype := .int) (N' := 60) (a0 := (60, .inl (fun _ => 0))) (ty := .int) (n := 60) hx hb (hB _ bg3) rfl hK hP hD hS hA (fun _ => rfl) (by decide) (by decide) (by decide) (Nat.le_of_ble_eq_true rfl) (Nat.le_of_ble_eq_true rfl) dX6_init_7 (fun q1 cA2 H hK hP hD hS => ?_)
  have hP : va_P (dC, dI) vwCl [(h0, .inr (6, [.null, .null, .null, .null, .null, .null, .null, .int 0, .int 0, .int 0])), (q1, .inl (cA2, 60, .inl (fun _ => 0)))] H := hP
  have hD : va_D A [(h0, .inr (6, [.null, .null, .null, .null, .null, .null, .null, .int 0, .int 0, .int 0])), (q1, .inl (cA2, 60, .inl (fun _ => 0)))] := hD
  have hK : va_K (dC, dI) vwCl [(cA2, .int)] s := hK
  refine W.widen (k := 1) (n := 60) (by decide) (by decide) ?_
  refine va_putF (D := (dC, dI)) (ci := 6) (v := .ref q1) (ty := .array .int) (C := RX6) (T := TX6) (N := 10) hx hb hB inB6 tyX6 tyX6_ok nmX6 hown hK hP hD hS 0 rfl rfl 0 (by decide) (hB _ bg53) (fun _ h9 => h9) rfl hin rfl (by decide +kernel) rfl rfl (Nat.le_of_ble_eq_true rfl) dX6_init_9 (fun H locs hP hD hS => ?_)
  have hP : va_P (dC, dI) vwCl [(h0, .inr (6, [.ref q1, .null, .null, .null, .null, .null, .null, .int 0, .int 0, .int 0])), (q1, .inl (cA2, 60, .inl (fun _ => 0)))] H := hP
  have hD : va_D A [(h0, .inr (6, [.ref q1, .null, .null, .null, .null, .null, .null, .int 0, .int 0, .int 0])), (q1, .inl (cA2, 60, .inl (fun _ => 0)))] := hD
  refine lv_aload_n hx hb dX6_init_12 rfl (lv_at hl 0 rfl) ?_
  refine va_new (ci := 2) (fs := [.null, .null, .null, .null, .null, .int 0]) (C := RX2) (T := TX2) (N := 6) hx hb hB inB2 tyX2 tyX2_ok hown (hB _ bg54) (hB _ bg55) (hB _ bg56) hK hP hD hS hA rfl dfX2 (Nat.le_of_ble_eq_true rfl) (Nat.le_of_ble_eq_true rfl) dX6_init_13 (fun q3 H hP hD hS => ?_)
  have hP : va_P (dC, dI) vwCl [(h0, .inr (6, [.ref q1, .null, .null, .null, .null, .null, .null, .int 0, .int 0, .int 0])), (q1, .inl (cA2, 60, .inl (fun _ => 0))), (q3, .inr (2, [.null, .null, .null, .null, .null, .int 0]))] H := hP
  have hD : va_D A [(h0, .inr (6, [.ref q1, .null, .null, .null, .null, .null, .null, .int 0, .int 0, .int 0])), (q1, .inl (cA2, 60, .inl (fun _ => 0))), (q3, .inr (2, [.null, .null, .null, .null, .null, .int 0]))] := hD
  refine W.widen (k := 2) (n := 66) (by decide) (by decide) ?_
  refine lv_dup hx hb dX6_init_16 rfl ?_
  have hPc := hP.sub (ws' := [(q3, .inr (2, [.null, .null, .null, .null, .null, .int 0]))]) [2] rfl
  have hDc := hD.sub (ws' := [(q3, .inr (2, [.null, .null, .null, .null, .null, .int 0]))]) [2] (by decide) rfl
  have hKc := hK.sub (tys' := []) [] rfl
  have hFc := va_free (wc := [(q3, .inr (2, [.null, .null, .null, .null, .null, .int 0]))]) hD hS hA [2] rfl
  refine va_callv (va_runI (As := []) (rest := [.ref q3, .ref h0]) ⟨hx, hb, hml, hown, hB⟩ (c_Terms_init l dC dI q3 H.size) (cwI 0 hB (bgI bg57) rfl rfl rfl (hB _ bg56) (hB _ bg58) (hB _ bg59) rfl (by decide +kernel) ⟨Nat.le_of_ble_eq_true rfl, Nat.le_of_ble_eq_true rfl⟩) ⟨fun a U g mk q => by obtain ⟨q0, q1, qP, qK, qD⟩ := q; exact ⟨q0, q1, qP, va_K.moved (u := U) (U := U.calling g mk a) (Vm.Alike.refl U.vm) qK, qD⟩, fun U hU hW => ⟨rfl, by rw [hU], by rw [hU]; exact hPc, va_K.moved hW.alike hKc, hDc.weaken (fun _ _ _ _ => trivial)⟩⟩ rfl rfl hl.1 rfl (lv_room (Nat.le_of_ble_eq_true rfl)) dX6_init_17 ⟨Nat.le_of_ble_eq_true rfl, Nat.le_of_ble_eq_true rfl⟩) hS (fun q _ h => hFc q h) hFc (fun u9 t9 H1 locs ht9 hvm hw hB1 hz1 hk1 hS => ?_)
  obtain ⟨u_4, rfl⟩ : ∃ z, z = u9 := ⟨_, rfl⟩
  try dsimp only at hB1 hw
  obtain ⟨hP1, hK1, hD1⟩ := hB1
  rw [ht9] at hP1
  have hK1 := va_K.moved hvm.symm hK1
  obtain ⟨hP, hD⟩ := va_join (wr := [(h0, .inr (6, [.ref q1, .null, .null, .null, .null, .null, .null, .int 0, .int 0, .int 0])), (q1, .inl (cA2, 60, .inl (fun _ => 0)))]) (w1 := [(q3, .inr (2, [.ref (u_4 0), .ref (u_4 1), .ref (u_4 2), .ref (u_4 3), .ref (u_4 4), .int 0]))]) hP hD [2] [0, 1] rfl rfl (by decide) (by decide) hk1 hFc hP1 hD1
  have hK := (hK.sub (tys' := [(cA2, .int)]) [0] rfl).app hK1
  generalize H1 = H at hP hS ⊢
  have hP : va_P (dC, dI) vwCl [(h0, .inr (6, [.ref q1, .null, .null, .null, .null, .null, .null, .int 0, .int 0, .int 0])), (q1, .inl (cA2, 60, .inl (fun _ => 0))), (q3, .inr (2, [.ref (u_4 0), .ref (u_4 1), .ref (u_4 2), .ref (u_4 3), .ref (u_4 4), .int 0]))] H := hP
  have hD : va_D A [(h0, .inr (6, [.ref q1, .null, .null, .null, .null, .null, .null, .int 0, .int 0, .int 0])), (q1, .inl (cA2, 60, .inl (fun _ => 0))), (q3, .inr (2, [.ref (u_4 0), .ref (u_4 1), .ref (u_4 2), .ref (u_4 3), .ref (u_4 4), .int 0]))] := hD
  have hK : va_K (dC, dI) vwCl [(cA2, .int)] s := hK
  refine W.widen (k := 7) (n := 906) (by decide) (by decide) ?_
  refine va_putF (D := (dC, dI)) (ci := 6) (v := .ref q3) (ty := .object "TinyMl$Terms") (C := RX6) (T := TX6) (N := 10) hx hb hB inB6 tyX6 tyX6_ok nmX6 hown hK hP hD hS 0 rfl rfl 1 (by decide) (hB _ bg60) (fun _ h9 => h9) rfl hin rfl (by decide +kernel) rfl rfl (Nat.le_of_ble_eq_true rfl) dX6_init_20 (fun H locs hP hD hS => ?_)
  have hP : va_P (dC, dI) vwCl [(h0, .inr (6, [.ref q1, .ref q3, .null, .null, .null, .null, .null, .int 0, .int 0, .int 0])), (q1, .inl (cA2, 60, .inl (fun _ => 0))), (q3, .inr (2, [.ref (u_4 0), .ref (u_4 1), .ref (u_4 2), .ref (u_4 3), .ref (u_4 4), .int 0]))] H := hP
  have hD : va_D A [(h0, .inr (6, [.ref q1, .ref q3, .null, .null, .null, .null, .null, .int 0, .int 0, .int 0])), (q1, .inl (cA2, 60, .inl (fun _ => 0))), (q3, .inr (2, [.ref (u_4 0), .ref (u_4 1), .ref (u_4 2), .ref (u_4 3), .ref (u_4 4), .int 0]))] := hD
  refine lv_aload_n hx hb dX6_init_23 rfl (lv_at hl 0 rfl) ?_
  refine va_new (ci := 1) (fs := [.null, .null, .int 0, .int 0, .int 0, .int 0]) (C := RX1) (T := TX1) (N := 6) hx hb hB inB1 tyX1 tyX1_ok hown (hB _ bg61) (hB _ bg62) (hB _ bg63) hK hP hD hS hA rfl dfX1 (Nat.le_of_ble_eq_true rfl) (Nat.le_of_ble_eq_true rfl) dX6_init_24 (fun q5 H hP hD hS => ?_)
  have hP : va_P (dC, dI) vwCl [(h0, .inr (6, [.ref q1, .ref q3, .null, .null, .null, .null, .null, .int 0, .int 0, .int 0])), (q1, .inl (cA2, 60, .inl (fun _ => 0))), (q3, .inr (2, [.ref (u_4 0), .ref (u_4 1), .ref (u_4 2), .ref (u_4 3), .ref (u_4 4), .int 0])), (q5, .inr (1, [.null, .null, .int 0, .int 0, .int 0, .int 0]))] H := hP
  have hD : va_D A [(h0, .inr (6, [.ref q1, .ref q3, .null, .null, .null, .null, .null, .int 0, .int 0, .int 0])), (q1, .inl (cA2, 60, .inl (fun _ => 0))), (q3, .inr (2, [.ref (u_4 0), .ref (u_4 1), .ref (u_4 2), .ref (u_4 3), .ref (u_4 4), .int 0])), (q5, .inr (1, [.null, .null, .int 0, .int 0, .int 0, .int 0]))] := hD
  refine W.widen (k := 8) (n := 912) (by decide) (by decide) ?_
  refine lv_dup hx hb dX6_init_27 rfl ?_
  refine lv_aload_n hx hb dX6_init_28 rfl (lv_at hl 0 rfl) ?_
  refine va_get (D := (dC, dI)) (ci := 6) (v := .ref q1) (C := RX6) (T := TX6) (N := 10) hx hb hB inB6 hown hK hP 0 rfl rfl 0 (by decide) (hB _ bg53) (fun _ h9 => h9) rfl dX6_init_29 ?_
  refine lv_aload_n hx hb dX6_init_32 rfl (lv_at hl 0 rfl) ?_
  refine va_get (D := (dC, dI)) (ci := 6) (v := .ref q3) (C := RX6) (T := TX6) (N := 10) hx hb hB inB6 hown hK hP 0 rfl rfl 1 (by decide) (hB _ bg60) (fun _ h9 => h9) rfl dX6_init_33 ?_
  have hPc := hP.sub (ws' := [(q5, .inr (1, [.null, .null, .int 0, .int 0, .int 0, .int 0]))]) [3] rfl
  have hDc := hD.sub (ws' := [(q5, .inr (1, [.null, .null, .int 0, .int 0, .int 0, .int 0]))]) [3] (by decide) rfl
  have hKc := hK.sub (tys' := []) [] rfl
  have hFc := va_free (wc := [(q5, .inr (1, [.null, .null, .int 0, .int 0, .int 0, .int 0]))]) hD hS hA [3] rfl
  refine va_callv (va_runI (As := [.ref q1, .ref q3]) (rest := [.ref q5, .ref h0]) ⟨hx, hb, hml, hown, hB⟩ (c_Reader_init l dC dI q5 q1 q3 H.size) (cwI 2 hB (bgI bg64) rfl rfl rfl (hB _ bg63) (hB _ bg65) (hB _ bg66) rfl (by decide +kernel) ⟨Nat.le_of_ble_eq_true rfl, Nat.le_of_ble_eq_true rfl⟩) ⟨fun a U g mk q => by obtain ⟨q0, q1, qP, qK, qD⟩ := q; exact ⟨q0, q1, qP, va_K.moved (u := U) (U := U.calling g mk a) (Vm.Alike.refl U.vm) qK, qD⟩, fun U hU hW => ⟨rfl, by rw [hU], by rw [hU]; exact hPc, va_K.moved hW.alike hKc, hDc.weaken (fun _ _ _ _ => trivial)⟩⟩ rfl rfl hl.1 rfl (lv_room (Nat.le_of_ble_eq_true rfl)) dX6_init_36 ⟨Nat.le_of_ble_eq_true rfl, Nat.le_of_ble_eq_true rfl⟩) hS (fun q _ h => hFc q h) hFc (fun u9 t9 H1 locs ht9 hvm hw hB1 hz1 hk1 hS => ?_)
  try dsimp only at hB1 hw
  obtain ⟨hP1, hK1, hD1⟩ := hB1
  rw [ht9] at hP1
  have hK1 := va_K.moved hvm.symm hK1
  obtain ⟨hP, hD⟩ := va_join (wr := [(h0, .inr (6, [.ref q1, .ref q3, .null, .null, .null, .null, .null, .int 0, .int 0, .int 0])), (q1, .inl (cA2, 60, .inl (fun _ => 0))), (q3, .inr (2, [.ref (u_4 0), .ref (u_4 1), .ref (u_4 2), .ref (u_4 3), .ref (u_4 4), .int 0]))]) (w1 := [(q5, .inr (1, [.ref q1, .ref q3, .int 0, .int 0, .int 0, .int (-1)]))]) hP hD [3] [0, 1, 2] rfl rfl (by decide) (by decide) hk1 hFc hP1 hD1
  have hK := (hK.sub (tys' := [(cA2, .int)]) [0] rfl).app hK1
  generalize H1 = H at hP hS ⊢
  have hP : va_P (dC, dI) vwCl [(h0, .inr (6, [.ref q1, .ref q3, .null, .null, .null, .null, .null, .int 0, .int 0, .int 0])), (q1, .inl (cA2, 60, .inl (fun _ => 0))), (q3, .inr (2, [.ref (u_4 0), .ref (u_4 1), .ref (u_4 2), .ref (u_4 3), .ref (u_4 4), .int 0])), (q5, .inr (1, [.ref q1, .ref q3, .int 0, .int 0, .int 0, .int (-1)]))] H := hP
  have hD : va_D A [(h0, .inr (6, [.ref q1, .ref q3, .null, .null, .null, .null, .null, .int 0, .int 0, .int 0])), (q1, .inl (cA2, 60, .inl (fun _ => 0))), (q3, .inr (2, [.ref (u_4 0), .ref (u_4 1), .ref (u_4 2), .ref (u_4 3), .ref (u_4 4), .int 0])), (q5, .inr (1, [.ref q1, .ref q3, .int 0, .int 0, .int 0, .int (-1)]))] := hD
  have hK : va_K (dC, dI) vwCl [(cA2, .int)] s := hK
  refine va_putF (D := (dC, dI)) (ci := 6) (v := .ref q5) (ty := .object "TinyMl$Reader") (C := RX6) (T := TX6) (N := 10) hx hb hB inB6 tyX6 tyX6_ok nmX6 hown hK hP hD hS 0 rfl rfl 2 (by decide) (hB _ bg67) (fun _ h9 => h9) rfl hin rfl (by decide +kernel) rfl rfl (Nat.le_of_ble_eq_true rfl) dX6_init_39 (fun H locs hP hD hS => ?_)
  have hP : va_P (dC, dI) vwCl [(h0, .inr (6, [.ref q1, .ref q3, .ref q5, .null, .null, .null, .null, .int 0, .int 0, .int 0])), (q1, .inl (cA2, 60, .inl (fun _ => 0))), (q3, .inr (2, [.ref (u_4 0), .ref (u_4 1), .ref (u_4 2), .ref (u_4 3), .ref (u_4 4), .int 0])), (q5, .inr (1, [.ref q1, .ref q3, .int 0, .int 0, .int 0, .int (-1)]))] H := hP
  have hD : va_D A [(h0, .inr (6, [.ref q1, .ref q3, .ref q5, .null, .null, .null, .null, .int 0, .int 0, .int 0])), (q1, .inl (cA2, 60, .inl (fun _ => 0))), (q3, .inr (2, [.ref (u_4 0), .ref (u_4 1), .ref (u_4 2), .ref (u_4 3), .ref (u_4 4), .int 0])), (q5, .inr (1, [.ref q1, .ref q3, .int 0, .int 0, .int 0, .int (-1)]))] := hD
  refine lv_aload_n hx hb dX6_init_42 rfl (lv_at hl 0 rfl) ?_
  refine va_new (ci := 3) (fs := [.null, .null, .null, .null, .null, .int 0]) (C := RX3) (T := TX3) (N := 6) hx hb hB inB3 tyX3 tyX3_ok hown (hB _ bg68) (hB _ bg69) (hB _ bg70) hK hP hD hS hA rfl dfX3 (Nat.le_of_ble_eq_true rfl) (Nat.le_of_ble_eq_true rfl) dX6_init_43 (fun q6 H hP hD hS => ?_)
  have hP : va_P (dC, dI) vwCl [(h0, .inr (6, [.ref q1, .ref q3, .ref q5, .null, .null, .null, .null, .int 0, .int 0, .int 0])), (q1, .inl (cA2, 60, .inl (fun _ => 0))), (q3, .inr (2, [.ref (u_4 0), .ref (u_4 1), .ref (u_4 2), .ref (u_4 3), .ref (u_4 4), .int 0])), (q5, .inr (1, [.ref q1, .ref q3, .int 0, .int 0, .int 0, .int (-1)])), (q6, .inr (3, [.null, .null, .null, .null, .null, .int 0]))] H := hP
  have hD : va_D A [(h0, .inr (6, [.ref q1, .ref q3, .ref q5, .null, .null, .null, .null, .int 0, .int 0, .int 0])), (q1, .inl (cA2, 60, .inl (fun _ => 0))), (q3, .inr (2, [.ref (u_4 0), .ref (u_4 1), .ref (u_4 2), .ref (u_4 3), .ref (u_4 4), .int 0])), (q5, .inr (1, [.ref q1, .ref q3, .int 0, .int 0, .int 0, .int (-1)])), (q6, .inr (3, [.null, .null, .null, .null, .null, .int 0]))] := hD
  refine W.widen (k := 9) (n := 918) (by decide) (by decide) ?_
  refine lv_dup hx hb dX6_init_46 rfl ?_
  refine lv_aload_n hx hb dX6_init_47 rfl (lv_at hl 0 rfl) ?_
  refine va_get (D := (dC, dI)) (ci := 6) (v := .ref q3) (C := RX6) (T := TX6) (N := 10) hx hb hB inB6 hown hK hP 0 rfl rfl 1 (by decide) (hB _ bg60) (fun _ h9 => h9) rfl dX6_init_48 ?_
  have hPc := hP.sub (ws' := [(q6, .inr (3, [.null, .null, .null, .null, .null, .int 0]))]) [4] rfl
  have hDc := hD.sub (ws' := [(q6, .inr (3, [.null, .null, .null, .null, .null, .int 0]))]) [4] (by decide) rfl
  have hKc := hK.sub (tys' := []) [] rfl
  have hFc := va_free (wc := [(q6, .inr (3, [.null, .null, .null, .null, .null, .int 0]))]) hD hS hA [4] rfl
  refine va_callv (va_runI (As := [.ref q3]) (rest := [.ref q6, .ref h0]) ⟨hx, hb, hml, hown, hB⟩ (c_Typer_init l dC dI q6 q3 H.size) (cwI 1 hB (bgI bg71) rfl rfl rfl (hB _ bg70) (hB _ bg72) (hB _ bg73) rfl (by decide +kernel) ⟨Nat.le_of_ble_eq_true rfl, Nat.le_of_ble_eq_true rfl⟩) ⟨fun a U g mk q => by obtain ⟨q0, q1, qP, qK, qD⟩ := q; exact ⟨q0, q1, qP, va_K.moved (u := U) (U := U.calling g mk a) (Vm.Alike.refl U.vm) qK, qD⟩, fun U hU hW => ⟨rfl, by rw [hU], by rw [hU]; exact hPc, va_K.moved hW.alike hKc, hDc.weaken (fun _ _ _ _ => trivial)⟩⟩ rfl rfl hl.1 rfl (lv_room (Nat.le_of_ble_eq_true rfl)) dX6_init_51 ⟨Nat.le_of_ble_eq_true rfl, Nat.le_of_ble_eq_true rfl⟩) hS (fun q _ h => hFc q h) hFc (fun u9 t9 H1 locs ht9 hvm hw hB1 hz1 hk1 hS => ?_)
  try dsimp only at hB1 hw
  obtain ⟨hP1, hK1, hD1⟩ := hB1
  rw [ht9] at hP1
  have hK1 := va_K.moved hvm.symm hK1
  obtain ⟨hP, hD⟩ := va_join (wr := [(h0, .inr (6, [.ref q1, .ref q3, .ref q5, .null, .null, .null, .null, .int 0, .int 0, .int 0])), (q1, .inl (cA2, 60, .inl (fun _ => 0))), (q3, .inr (2, [.ref (u_4 0), .ref (u_4 1), .ref (u_4 2), .ref (u_4 3), .ref (u_4 4), .int 0])), (q5, .inr (1, [.ref q1, .ref q3, .int 0, .int 0, .int 0, .int (-1)]))]) (w1 := []) hP hD [4] [0, 1, 2, 3] rfl rfl (by decide) (by decide) hk1 hFc hP1 hD1
  have hK := (hK.sub (tys' := [(cA2, .int)]) [0] rfl).app hK1
  generalize H1 = H at hP hS ⊢
  have hP : va_P (dC, dI) vwCl [(h0, .inr (6, [.ref q1, .ref q3, .ref q5, .null, .null, .null, .null, .int 0, .int 0, .int 0])), (q1, .inl (cA2, 60, .inl (fun _ => 0))), (q3, .inr (2, [.ref (u_4 0), .ref (u_4 1), .ref (u_4 2), .ref (u_4 3), .ref (u_4 4), .int 0])), (q5, .inr (1, [.ref q1, .ref q3, .int 0, .int 0, .int 0, .int (-1)]))] H := hP
  have hD : va_D A [(h0, .inr (6, [.ref q1, .ref q3, .ref q5, .null, .null, .null, .null, .int 0, .int 0, .int 0])), (q1, .inl (cA2, 60, .inl (fun _ => 0))), (q3, .inr (2, [.ref (u_4 0), .ref (u_4 1), .ref (u_4 2), .ref (u_4 3), .ref (u_4 4), .int 0])), (q5, .inr (1, [.ref q1, .ref q3, .int 0, .int 0, .int 0, .int (-1)]))] := hD
  have hK : va_K (dC, dI) vwCl [(cA2, .int)] s := hK
  refine W.widen (k := 22) (n := 4386) (by decide) (by decide) ?_
  refine va_putF (D := (dC, dI)) (ci := 6) (v := .ref q6) (ty := .object "TinyMl$Typer") (C := RX6) (T := TX6) (N := 10) hx hb hB inB6 tyX6 tyX6_ok nmX6 hown hK hP hD hS 0 rfl rfl 3 (by decide) (hB _ bg74) (fun _ h9 => h9) rfl hin rfl (by decide +kernel) rfl rfl (Nat.le_of_ble_eq_true rfl) dX6_init_54 (fun H locs hP hD hS => ?_)
  have hP : va_P (dC, dI) vwCl [(h0, .inr (6, [.ref q1, .ref q3, .ref q5, .ref q6, .null, .null, .null, .int 0, .int 0, .int 0])), (q1, .inl (cA2, 60, .inl (fun _ => 0))), (q3, .inr (2, [.ref (u_4 0), .ref (u_4 1), .ref (u_4 2), .ref (u_4 3), .ref (u_4 4), .int 0])), (q5, .inr (1, [.ref q1, .ref q3, .int 0, .int 0, .int 0, .int (-1)]))] H := hP
  have hD : va_D A [(h0, .inr (6, [.ref q1, .ref q3, .ref q5, .ref q6, .null, .null, .null, .int 0, .int 0, .int 0])), (q1, .inl (cA2, 60, .inl (fun _ => 0))), (q3, .inr (2, [.ref (u_4 0), .ref (u_4 1), .ref (u_4 2), .ref (u_4 3), .ref (u_4 4), .int 0])), (q5, .inr (1, [.ref q1, .ref q3, .int 0, .int 0, .int 0, .int (-1)]))] := hD
  refine lv_aload_n hx hb dX6_init_57 rfl (lv_at hl 0 rfl) ?_
  refine va_new (ci := 0) (fs := [.null, .null, .null, .null, .null, .null, .null, .null, .int 0, .int 0, .int 0, .int 0, .int 0, .int 0, .int 0, .int 0]) (C := RX0) (T := TX0) (N := 16) hx hb hB inB0 tyX0 tyX0_ok hown (hB _ bg75) (hB _ bg76) (hB _ bg77) hK hP hD hS hA rfl dfX0 (Nat.le_of_ble_eq_true rfl) (Nat.le_of_ble_eq_true rfl) dX6_init_58 (fun q7 H hP hD hS => ?_)
  have hP : va_P (dC, dI) vwCl [(h0, .inr (6, [.ref q1, .ref q3, .ref q5, .ref q6, .null, .null, .null, .int 0, .int 0, .int 0])), (q1, .inl (cA2, 60, .inl (fun _ => 0))), (q3, .inr (2, [.ref (u_4 0), .ref (u_4 1), .ref (u_4 2), .ref (u_4 3), .ref (u_4 4), .int 0])), (q5, .inr (1, [.ref q1, .ref q3, .int 0, .int 0, .int 0, .int (-1)])), (q7, .inr (0, [.null, .null, .null, .null, .null, .null, .null, .null, .int 0, .int 0, .int 0, .int 0, .int 0, .int 0, .int 0, .int 0]))] H := hP
  have hD : va_D A [(h0, .inr (6, [.ref q1, .ref q3, .ref q5, .ref q6, .null, .null, .null, .int 0, .int 0, .int 0])), (q1, .inl (cA2, 60, .inl (fun _ => 0))), (q3, .inr (2, [.ref (u_4 0), .ref (u_4 1), .ref (u_4 2), .ref (u_4 3), .ref (u_4 4), .int 0])), (q5, .inr (1, [.ref q1, .ref q3, .int 0, .int 0, .int 0, .int (-1)])), (q7, .inr (0, [.null, .null, .null, .null, .null, .null, .null, .null, .int 0, .int 0, .int 0, .int 0, .int 0, .int 0, .int 0, .int 0]))] := hD
  refine W.widen (k := 23) (n := 4402) (by decide) (by decide) ?_
  refine lv_dup hx hb dX6_init_61 rfl ?_
  refine lv_aload_n hx hb dX6_init_62 rfl (lv_at hl 0 rfl) ?_
  refine va_get (D := (dC, dI)) (ci := 6) (v := .ref q3) (C := RX6) (T := TX6) (N := 10) hx hb hB inB6 hown hK hP 0 rfl rfl 1 (by decide) (hB _ bg60) (fun _ h9 => h9) rfl dX6_init_63 ?_
  have hPc := hP.sub (ws' := [(q7, .inr (0, [.null, .null, .null, .null, .null, .null, .null, .null, .int 0, .int 0, .int 0, .int 0, .int 0, .int 0, .int 0, .int 0]))]) [4] rfl
  have hDc := hD.sub (ws' := [(q7, .inr (0, [.null, .null, .null, .null, .null, .null, .null, .null, .int 0, .int 0, .int 0, .int 0, .int 0, .int 0, .int 0, .int 0]))]) [4] (by decide) rfl
  have hKc := hK.sub (tys' := []) [] rfl
  have hFc := va_free (wc := [(q7, .inr (0, [.null, .null, .null, .null, .null, .null, .null, .null, .int 0, .int 0, .int 0, .int 0, .int 0, .int 0, .int 0, .int 0]))]) hD hS hA [4] rfl
  refine va_callv (va_runI (As := [.ref q3]) (rest := [.ref q7, .ref h0]) ⟨hx, hb, hml, hown, hB⟩ (c_Machine_init l dC dI q7 q3 H.size) (cwI 1 hB (bgI bg78) rfl rfl rfl (hB _ bg77) (hB _ bg79) (hB _ bg80) rfl (by decide +kernel) ⟨Nat.le_of_ble_eq_true rfl, Nat.le_of_ble_eq_true rfl⟩) ⟨fun a U g mk q => by obtain ⟨q0, q1, qP, qK, qD⟩ := q; exact ⟨q0, q1, qP, va_K.moved (u := U) (U := U.calling g mk a) (Vm.Alike.refl U.vm) qK, qD⟩, fun U hU hW => ⟨rfl, by rw [hU], by rw [hU]; exact hPc, va_K.moved hW.alike hKc, hDc.weaken (fun _ _ _ _ => trivial)⟩⟩ rfl rfl hl.1 rfl (lv_room (Nat.le_of_ble_eq_true rfl)) dX6_init_66 ⟨Nat.le_of_ble_eq_true rfl, Nat.le_of_ble_eq_true rfl⟩) hS (fun q _ h => hFc q h) hFc (fun u9 t9 H1 locs ht9 hvm hw hB1 hz1 hk1 hS => ?_)
  obtain ⟨u_8, rfl⟩ : ∃ z, z = u9 := ⟨_, rfl⟩
  try dsimp only at hB1 hw
  obtain ⟨hP1, hK1, hD1⟩ := hB1
  rw [ht9] at hP1
  have hK1 := va_K.moved hvm.symm hK1
  obtain ⟨hP, hD⟩ := va_join (wr := [(h0, .inr (6, [.ref q1, .ref q3, .ref q5, .ref q6, .null, .null, .null, .int 0, .int 0, .int 0])), (q1, .inl (cA2, 60, .inl (fun _ => 0))), (q3, .inr (2, [.ref (u_4 0), .ref (u_4 1), .ref (u_4 2), .ref (u_4 3), .ref (u_4 4), .int 0])), (q5, .inr (1, [.ref q1, .ref q3, .int 0, .int 0, .int 0, .int (-1)]))]) (w1 := [(q7, .inr (0, [.ref q3, .ref (u_8 1), .ref (u_8 2), .ref (u_8 3), .ref (u_8 4), .ref (u_8 5), .ref (u_8 6), .ref (u_8 7), .int 0, .int 0, .int 0, .int 0, .int 0, .int 0, .int 0, .int 0]))]) hP hD [4] [0, 1, 2, 3] rfl rfl (by decide) (by decide) hk1 hFc hP1 hD1
  have hK := (hK.sub (tys' := [(cA2, .int)]) [0] rfl).app hK1
  generalize H1 = H at hP hS ⊢
  have hP : va_P (dC, dI) vwCl [(h0, .inr (6, [.ref q1, .ref q3, .ref q5, .ref q6, .null, .null, .null, .int 0, .int 0, .int 0])), (q1, .inl (cA2, 60, .inl (fun _ => 0))), (q3, .inr (2, [.ref (u_4 0), .ref (u_4 1), .ref (u_4 2), .ref (u_4 3), .ref (u_4 4), .int 0])), (q5, .inr (1, [.ref q1, .ref q3, .int 0, .int 0, .int 0, .int (-1)])), (q7, .inr (0, [.ref q3, .ref (u_8 1), .ref (u_8 2), .ref (u_8 3), .ref (u_8 4), .ref (u_8 5), .ref (u_8 6), .ref (u_8 7), .int 0, .int 0, .int 0, .int 0, .int 0, .int 0, .int 0, .int 0]))] H := hP
  have hD : va_D A [(h0, .inr (6, [.ref q1, .ref q3, .ref q5, .ref q6, .null, .null, .null, .int 0, .int 0, .int 0])), (q1, .inl (cA2, 60, .inl (fun _ => 0))), (q3, .inr (2, [.ref (u_4 0), .ref (u_4 1), .ref (u_4 2), .ref (u_4 3), .ref (u_4 4), .int 0])), (q5, .inr (1, [.ref q1, .ref q3, .int 0, .int 0, .int 0, .int (-1)])), (q7, .inr (0, [.ref q3, .ref (u_8 1), .ref (u_8 2), .ref (u_8 3), .ref (u_8 4), .ref (u_8 5), .ref (u_8 6), .ref (u_8 7), .int 0, .int 0, .int 0, .int 0, .int 0, .int 0, .int 0, .int 0]))] := hD
  have hK : va_K (dC, dI) vwCl [(cA2, .int)] s := hK
  refine W.widen (k := 30) (n := 7098) (by decide) (by decide) ?_
  refine va_putF (D := (dC, dI)) (ci := 6) (v := .ref q7) (ty := .object "TinyMl$Machine") (C := RX6) (T := TX6) (N := 10) hx hb hB inB6 tyX6 tyX6_ok nmX6 hown hK hP hD hS 0 rfl rfl 4 (by decide) (hB _ bg81) (fun _ h9 => h9) rfl hin rfl (by decide +kernel) rfl rfl (Nat.le_of_ble_eq_true rfl) dX6_init_69 (fun H locs hP hD hS => ?_)
  have hP : va_P (dC, dI) vwCl [(h0, .inr (6, [.ref q1, .ref q3, .ref q5, .ref q6, .ref q7, .null, .null, .int 0, .int 0, .int 0])), (q1, .inl (cA2, 60, .inl (fun _ => 0))), (q3, .inr (2, [.ref (u_4 0), .ref (u_4 1), .ref (u_4 2), .ref (u_4 3), .ref (u_4 4), .int 0])), (q5, .inr (1, [.ref q1, .ref q3, .int 0, .int 0, .int 0, .int (-1)])), (q7, .inr (0, [.ref q3, .ref (u_8 1), .ref (u_8 2), .ref (u_8 3), .ref (u_8 4), .ref (u_8 5), .ref (u_8 6), .ref (u_8 7), .int 0, .int 0, .int 0, .int 0, .int 0, .int 0, .int 0, .int 0]))] H := hP
  have hD : va_D A [(h0, .inr (6, [.ref q1, .ref q3, .ref q5, .ref q6, .ref q7, .null, .null, .int 0, .int 0, .int 0])), (q1, .inl (cA2, 60, .inl (fun _ => 0))), (q3, .inr (2, [.ref (u_4 0), .ref (u_4 1), .ref (u_4 2), .ref (u_4 3), .ref (u_4 4), .int 0])), (q5, .inr (1, [.ref q1, .ref q3, .int 0, .int 0, .int 0, .int (-1)])), (q7, .inr (0, [.ref q3, .ref (u_8 1), .ref (u_8 2), .ref (u_8 3), .ref (u_8 4), .ref (u_8 5), .ref (u_8 6), .ref (u_8 7), .int 0, .int 0, .int 0, .int 0, .int 0, .int 0, .int 0, .int 0]))] := hD
  refine lv_aload_n hx hb dX6_init_72 rfl (lv_at hl 0 rfl) ?_
  refine va_new (ci := 5) (fs := [.null, .int 0]) (C := RX5) (T := TX5) (N := 2) hx hb hB inB5 tyX5 tyX5_ok hown (hB _ bg82) (hB _ bg24) (hB _ bg25) hK hP hD hS hA rfl dfX5 (Nat.le_of_ble_eq_true rfl) (Nat.le_of_ble_eq_true rfl) dX6_init_73 (fun q9 H hP hD hS => ?_)
  have hP : va_P (dC, dI) vwCl [(h0, .inr (6, [.ref q1, .ref q3, .ref q5, .ref q6, .ref q7, .null, .null, .int 0, .int 0, .int 0])), (q1, .inl (cA2, 60, .inl (fun _ => 0))), (q3, .inr (2, [.ref (u_4 0), .ref (u_4 1), .ref (u_4 2), .ref (u_4 3), .ref (u_4 4), .int 0])), (q5, .inr (1, [.ref q1, .ref q3, .int 0, .int 0, .int 0, .int (-1)])), (q7, .inr (0, [.ref q3, .ref (u_8 1), .ref (u_8 2), .ref (u_8 3), .ref (u_8 4), .ref (u_8 5), .ref (u_8 6), .ref (u_8 7), .int 0, .int 0, .int 0, .int 0, .int 0, .int 0, .int 0, .int 0])), (q9, .inr (5, [.null, .int 0]))] H := hP
  have hD : va_D A [(h0, .inr (6, [.ref q1, .ref q3, .ref q5, .ref q6, .ref q7, .null, .null, .int 0, .int 0, .int 0])), (q1, .inl (cA2, 60, .inl (fun _ => 0))), (q3, .inr (2, [.ref (u_4 0), .ref (u_4 1), .ref (u_4 2), .ref (u_4 3), .ref (u_4 4), .int 0])), (q5, .inr (1, [.ref q1, .ref q3, .int 0, .int 0, .int 0, .int (-1)])), (q7, .inr (0, [.ref q3, .ref (u_8 1), .ref (u_8 2), .ref (u_8 3), .ref (u_8 4), .ref (u_8 5), .ref (u_8 6), .ref (u_8 7), .int 0, .int 0, .int 0, .int 0, .int 0, .int 0, .int 0, .int 0])), (q9, .inr (5, [.null, .int 0]))] := hD
  refine W.widen (k := 31) (n := 7100) (by decide) (by decide) ?_
  refine lv_dup hx hb dX6_init_76 rfl ?_
  refine lv_bipush (v := 100) hx hb dX6_init_77 (by decide) ?_
  have hPc := hP.sub (ws' := [(q9, .inr (5, [.null, .int 0]))]) [5] rfl
  have hDc := hD.sub (ws' := [(q9, .inr (5, [.null, .int 0]))]) [5] (by decide) rfl
  have hKc := hK.sub (tys' := []) [] rfl
  have hFc := va_free (wc := [(q9, .inr (5, [.null, .int 0]))]) hD hS hA [5] rfl
  refine va_callv (va_runI (As := [.int 100]) (rest := [.ref q9, .ref h0]) ⟨hx, hb, hml, hown, hB⟩ (c_Words100 l dC dI q9 H.size) (cwI 1 hB (bgI bg26) rfl rfl rfl (hB _ bg25) (hB _ bg83) (hB _ bg28) rfl (by decide +kernel) ⟨Nat.le_of_ble_eq_true rfl, Nat.le_of_ble_eq_true rfl⟩) ⟨fun a U g mk q => by obtain ⟨q0, q1, qP, qK, qD⟩ := q; exact ⟨q0, q1, qP, va_K.moved (u := U) (U := U.calling g mk a) (Vm.Alike.refl U.vm) qK, qD⟩, fun U hU hW => ⟨rfl, by rw [hU], by rw [hU]; exact hPc, va_K.moved hW.alike hKc, hDc.weaken (fun _ _ _ _ => trivial)⟩⟩ rfl rfl hl.1 rfl (lv_room (Nat.le_of_ble_eq_true rfl)) dX6_init_79 ⟨Nat.le_of_ble_eq_true rfl, Nat.le_of_ble_eq_true rfl⟩) hS (fun q _ h => hFc q h) hFc (fun u9 t9 H1 locs ht9 hvm hw hB1 hz1 hk1 hS => ?_)
  try dsimp only at hB1 hw
  obtain ⟨hP1, hK1, hD1⟩ := hB1
  rw [ht9] at hP1
  have hK1 := va_K.moved hvm.symm hK1
  obtain ⟨hP, hD⟩ := va_join (wr := [(h0, .inr (6, [.ref q1, .ref q3, .ref q5, .ref q6, .ref q7, .null, .null, .int 0, .int 0, .int 0])), (q1, .inl (cA2, 60, .inl (fun _ => 0))), (q3, .inr (2, [.ref (u_4 0), .ref (u_4 1), .ref (u_4 2), .ref (u_4 3), .ref (u_4 4), .int 0])), (q5, .inr (1, [.ref q1, .ref q3, .int 0, .int 0, .int 0, .int (-1)])), (q7, .inr (0, [.ref q3, .ref (u_8 1), .ref (u_8 2), .ref (u_8 3), .ref (u_8 4), .ref (u_8 5), .ref (u_8 6), .ref (u_8 7), .int 0, .int 0, .int 0, .int 0, .int 0, .int 0, .int 0, .int 0]))]) (w1 := []) hP hD [5] [0, 1, 2, 3, 4] rfl rfl (by decide) (by decide) hk1 hFc hP1 hD1
  have hK := (hK.sub (tys' := [(cA2, .int)]) [0] rfl).app hK1
  generalize H1 = H at hP hS ⊢
  have hP : va_P (dC, dI) vwCl [(h0, .inr (6, [.ref q1, .ref q3, .ref q5, .ref q6, .ref q7, .null, .null, .int 0, .int 0, .int 0])), (q1, .inl (cA2, 60, .inl (fun _ => 0))), (q3, .inr (2, [.ref (u_4 0), .ref (u_4 1), .ref (u_4 2), .ref (u_4 3), .ref (u_4 4), .int 0])), (q5, .inr (1, [.ref q1, .ref q3, .int 0, .int 0, .int 0, .int (-1)])), (q7, .inr (0, [.ref q3, .ref (u_8 1), .ref (u_8 2), .ref (u_8 3), .ref (u_8 4), .ref (u_8 5), .ref (u_8 6), .ref (u_8 7), .int 0, .int 0, .int 0, .int 0, .int 0, .int 0, .int 0, .int 0]))] H := hP
  have hD : va_D A [(h0, .inr (6, [.ref q1, .ref q3, .ref q5, .ref q6, .ref q7, .null, .null, .int 0, .int 0, .int 0])), (q1, .inl (cA2, 60, .inl (fun _ => 0))), (q3, .inr (2, [.ref (u_4 0), .ref (u_4 1), .ref (u_4 2), .ref (u_4 3), .ref (u_4 4), .int 0])), (q5, .inr (1, [.ref q1, .ref q3, .int 0, .int 0, .int 0, .int (-1)])), (q7, .inr (0, [.ref q3, .ref (u_8 1), .ref (u_8 2), .ref (u_8 3), .ref (u_8 4), .ref (u_8 5), .ref (u_8 6), .ref (u_8 7), .int 0, .int 0, .int 0, .int 0, .int 0, .int 0, .int 0, .int 0]))] := hD
  have hK : va_K (dC, dI) vwCl [(cA2, .int)] s := hK
  refine W.widen (k := 32) (n := 7200) (by decide) (by decide) ?_
  refine va_putF (D := (dC, dI)) (ci := 6) (v := .ref q9) (ty := .object "TinyMl$Words") (C := RX6) (T := TX6) (N := 10) hx hb hB inB6 tyX6 tyX6_ok nmX6 hown hK hP hD hS 0 rfl rfl 5 (by decide) (hB _ bg84) (fun _ h9 => h9) rfl hin rfl (by decide +kernel) rfl rfl (Nat.le_of_ble_eq_true rfl) dX6_init_82 (fun H locs hP hD hS => ?_)
  have hP : va_P (dC, dI) vwCl [(h0, .inr (6, [.ref q1, .ref q3, .ref q5, .ref q6, .ref q7, .ref q9, .null, .int 0, .int 0, .int 0])), (q1, .inl (cA2, 60, .inl (fun _ => 0))), (q3, .inr (2, [.ref (u_4 0), .ref (u_4 1), .ref (u_4 2), .ref (u_4 3), .ref (u_4 4), .int 0])), (q5, .inr (1, [.ref q1, .ref q3, .int 0, .int 0, .int 0, .int (-1)])), (q7, .inr (0, [.ref q3, .ref (u_8 1), .ref (u_8 2), .ref (u_8 3), .ref (u_8 4), .ref (u_8 5), .ref (u_8 6), .ref (u_8 7), .int 0, .int 0, .int 0, .int 0, .int 0, .int 0, .int 0, .int 0]))] H := hP
  have hD : va_D A [(h0, .inr (6, [.ref q1, .ref q3, .ref q5, .ref q6, .ref q7, .ref q9, .null, .int 0, .int 0, .int 0])), (q1, .inl (cA2, 60, .inl (fun _ => 0))), (q3, .inr (2, [.ref (u_4 0), .ref (u_4 1), .ref (u_4 2), .ref (u_4 3), .ref (u_4 4), .int 0])), (q5, .inr (1, [.ref q1, .ref q3, .int 0, .int 0, .int 0, .int (-1)])), (q7, .inr (0, [.ref q3, .ref (u_8 1), .ref (u_8 2), .ref (u_8 3), .ref (u_8 4), .ref (u_8 5), .ref (u_8 6), .ref (u_8 7), .int 0, .int 0, .int 0, .int 0, .int 0, .int 0, .int 0, .int 0]))] := hD
  refine lv_aload_n hx hb dX6_init_85 rfl (lv_at hl 0 rfl) ?_
  refine va_new (ci := 5) (fs := [.null, .int 0]) (C := RX5) (T := TX5) (N := 2) hx hb hB inB5 tyX5 tyX5_ok hown (hB _ bg82) (hB _ bg24) (hB _ bg25) hK hP hD hS hA rfl dfX5 (Nat.le_of_ble_eq_true rfl) (Nat.le_of_ble_eq_true rfl) dX6_init_86 (fun q10 H hP hD hS => ?_)
  have hP : va_P (dC, dI) vwCl [(h0, .inr (6, [.ref q1, .ref q3, .ref q5, .ref q6, .ref q7, .ref q9, .null, .int 0, .int 0, .int 0])), (q1, .inl (cA2, 60, .inl (fun _ => 0))), (q3, .inr (2, [.ref (u_4 0), .ref (u_4 1), .ref (u_4 2), .ref (u_4 3), .ref (u_4 4), .int 0])), (q5, .inr (1, [.ref q1, .ref q3, .int 0, .int 0, .int 0, .int (-1)])), (q7, .inr (0, [.ref q3, .ref (u_8 1), .ref (u_8 2), .ref (u_8 3), .ref (u_8 4), .ref (u_8 5), .ref (u_8 6), .ref (u_8 7), .int 0, .int 0, .int 0, .int 0, .int 0, .int 0, .int 0, .int 0])), (q10, .inr (5, [.null, .int 0]))] H := hP
  have hD : va_D A [(h0, .inr (6, [.ref q1, .ref q3, .ref q5, .ref q6, .ref q7, .ref q9, .null, .int 0, .int 0, .int 0])), (q1, .inl (cA2, 60, .inl (fun _ => 0))), (q3, .inr (2, [.ref (u_4 0), .ref (u_4 1), .ref (u_4 2), .ref (u_4 3), .ref (u_4 4), .int 0])), (q5, .inr (1, [.ref q1, .ref q3, .int 0, .int 0, .int 0, .int (-1)])), (q7, .inr (0, [.ref q3, .ref (u_8 1), .ref (u_8 2), .ref (u_8 3), .ref (u_8 4), .ref (u_8 5), .ref (u_8 6), .ref (u_8 7), .int 0, .int 0, .int 0, .int 0, .int 0, .int 0, .int 0, .int 0])), (q10, .inr (5, [.null, .int 0]))] := hD
  refine W.widen (k := 33) (n := 7202) (by decide) (by decide) ?_
  refine lv_dup hx hb dX6_init_89 rfl ?_
  refine lv_bipush (v := 100) hx hb dX6_init_90 (by decide) ?_
  have hPc := hP.sub (ws' := [(q10, .inr (5, [.null, .int 0]))]) [5] rfl
  have hDc := hD.sub (ws' := [(q10, .inr (5, [.null, .int 0]))]) [5] (by decide) rfl
  have hKc := hK.sub (tys' := []) [] rfl
  have hFc := va_free (wc := [(q10, .inr (5, [.null, .int 0]))]) hD hS hA [5] rfl
  refine va_callv (va_runI (As := [.int 100]) (rest := [.ref q10, .ref h0]) ⟨hx, hb, hml, hown, hB⟩ (c_Words100 l dC dI q10 H.size) (cwI 1 hB (bgI bg26) rfl rfl rfl (hB _ bg25) (hB _ bg83) (hB _ bg28) rfl (by decide +kernel) ⟨Nat.le_of_ble_eq_true rfl, Nat.le_of_ble_eq_true rfl⟩) ⟨fun a U g mk q => by obtain ⟨q0, q1, qP, qK, qD⟩ := q; exact ⟨q0, q1, qP, va_K.moved (u := U) (U := U.calling g mk a) (Vm.Alike.refl U.vm) qK, qD⟩, fun U hU hW => ⟨rfl, by rw [hU], by rw [hU]; exact hPc, va_K.moved hW.alike hKc, hDc.weaken (fun _ _ _ _ => trivial)⟩⟩ rfl rfl hl.1 rfl (lv_room (Nat.le_of_ble_eq_true rfl)) dX6_init_92 ⟨Nat.le_of_ble_eq_true rfl, Nat.le_of_ble_eq_true rfl⟩) hS (fun q _ h => hFc q h) hFc (fun u9 t9 H1 locs ht9 hvm hw hB1 hz1 hk1 hS => ?_)
  try dsimp only at hB1 hw
  obtain ⟨hP1, hK1, hD1⟩ := hB1
  rw [ht9] at hP1
  have hK1 := va_K.moved hvm.symm hK1
  obtain ⟨hP, hD⟩ := va_join (wr := [(h0, .inr (6, [.ref q1, .ref q3, .ref q5, .ref q6, .ref q7, .ref q9, .null, .int 0, .int 0, .int 0])), (q1, .inl (cA2, 60, .inl (fun _ => 0))), (q3, .inr (2, [.ref (u_4 0), .ref (u_4 1), .ref (u_4 2), .ref (u_4 3), .ref (u_4 4), .int 0])), (q5, .inr (1, [.ref q1, .ref q3, .int 0, .int 0, .int 0, .int (-1)])), (q7, .inr (0, [.ref q3, .ref (u_8 1), .ref (u_8 2), .ref (u_8 3), .ref (u_8 4), .ref (u_8 5), .ref (u_8 6), .ref (u_8 7), .int 0, .int 0, .int 0, .int 0, .int 0, .int 0, .int 0, .int 0]))]) (w1 := []) hP hD [5] [0, 1, 2, 3, 4] rfl rfl (by decide) (by decide) hk1 hFc hP1 hD1
  have hK := (hK.sub (tys' := [(cA2, .int)]) [0] rfl).app hK1
  generalize H1 = H at hP hS ⊢
  have hP : va_P (dC, dI) vwCl [(h0, .inr (6, [.ref q1, .ref q3, .ref q5, .ref q6, .ref q7, .ref q9, .null, .int 0, .int 0, .int 0])), (q1, .inl (cA2, 60, .inl (fun _ => 0))), (q3, .inr (2, [.ref (u_4 0), .ref (u_4 1), .ref (u_4 2), .ref (u_4 3), .ref (u_4 4), .int 0])), (q5, .inr (1, [.ref q1, .ref q3, .int 0, .int 0, .int 0, .int (-1)])), (q7, .inr (0, [.ref q3, .ref (u_8 1), .ref (u_8 2), .ref (u_8 3), .ref (u_8 4), .ref (u_8 5), .ref (u_8 6), .ref (u_8 7), .int 0, .int 0, .int 0, .int 0, .int 0, .int 0, .int 0, .int 0]))] H := hP
  have hD : va_D A [(h0, .inr (6, [.ref q1, .ref q3, .ref q5, .ref q6, .ref q7, .ref q9, .null, .int 0, .int 0, .int 0])), (q1, .inl (cA2, 60, .inl (fun _ => 0))), (q3, .inr (2, [.ref (u_4 0), .ref (u_4 1), .ref (u_4 2), .ref (u_4 3), .ref (u_4 4), .int 0])), (q5, .inr (1, [.ref q1, .ref q3, .int 0, .int 0, .int 0, .int (-1)])), (q7, .inr (0, [.ref q3, .ref (u_8 1), .ref (u_8 2), .ref (u_8 3), .ref (u_8 4), .ref (u_8 5), .ref (u_8 6), .ref (u_8 7), .int 0, .int 0, .int 0, .int 0, .int 0, .int 0, .int 0, .int 0]))] := hD
  have hK : va_K (dC, dI) vwCl [(cA2, .int)] s := hK
  refine W.widen (k := 34) (n := 7302) (by decide) (by decide) ?_
  refine va_putF (D := (dC, dI)) (ci := 6) (v := .ref q10) (ty := .object "TinyMl$Words") (C := RX6) (T := TX6) (N := 10) hx hb hB inB6 tyX6 tyX6_ok nmX6 hown hK hP hD hS 0 rfl rfl 6 (by decide) (hB _ bg85) (fun _ h9 => h9) rfl hin rfl (by decide +kernel) rfl rfl (Nat.le_of_ble_eq_true rfl) dX6_init_95 (fun H locs hP hD hS => ?_)
  have hP : va_P (dC, dI) vwCl [(h0, .inr (6, [.ref q1, .ref q3, .ref q5, .ref q6, .ref q7, .ref q9, .ref q10, .int 0, .int 0, .int 0])), (q1, .inl (cA2, 60, .inl (fun _ => 0))), (q3, .inr (2, [.ref (u_4 0), .ref (u_4 1), .ref (u_4 2), .ref (u_4 3), .ref (u_4 4), .int 0])), (q5, .inr (1, [.ref q1, .ref q3, .int 0, .int 0, .int 0, .int (-1)])), (q7, .inr (0, [.ref q3, .ref (u_8 1), .ref (u_8 2), .ref (u_8 3), .ref (u_8 4), .ref (u_8 5), .ref (u_8 6), .ref (u_8 7), .int 0, .int 0, .int 0, .int 0, .int 0, .int 0, .int 0, .int 0]))] H := hP
  have hD : va_D A [(h0, .inr (6, [.ref q1, .ref q3, .ref q5, .ref q6, .ref q7, .ref q9, .ref q10, .int 0, .int 0, .int 0])), (q1, .inl (cA2, 60, .inl (fun _ => 0))), (q3, .inr (2, [.ref (u_4 0), .ref (u_4 1), .ref (u_4 2), .ref (u_4 3), .ref (u_4 4), .int 0])), (q5, .inr (1, [.ref q1, .ref q3, .int 0, .int 0, .int 0, .int (-1)])), (q7, .inr (0, [.ref q3, .ref (u_8 1), .ref (u_8 2), .ref (u_8 3), .ref (u_8 4), .ref (u_8 5), .ref (u_8 6), .ref (u_8 7), .int 0, .int 0, .int 0, .int 0, .int 0, .int 0, .int 0, .int 0]))] := hD
  refine lv_aload_n hx hb dX6_init_98 rfl (lv_at hl 0 rfl) ?_
  refine lv_iconst (v := 0) hx hb dX6_init_99 (by decide) ?_
  refine va_put (D := (dC, dI)) (ci := 6) (v := .int 0) (ty := .int) (C := RX6) (T := TX6) (N := 10) hx hb hB inB6 tyX6 tyX6_ok nmX6 hown hK hP hD hS 0 rfl rfl 8 (by decide) (hB _ bg86) (fun _ h9 => h9) rfl (by decide +kernel) rfl rfl (Nat.le_of_ble_eq_true rfl) dX6_init_100 (fun H locs hP hD hS => ?_)
  have hP : va_P (dC, dI) vwCl [(h0, .inr (6, [.ref q1, .ref q3, .ref q5, .ref q6, .ref q7, .ref q9, .ref q10, .int 0, .int 0, .int 0])), (q1, .inl (cA2, 60, .inl (fun _ => 0))), (q3, .inr (2, [.ref (u_4 0), .ref (u_4 1), .ref (u_4 2), .ref (u_4 3), .ref (u_4 4), .int 0])), (q5, .inr (1, [.ref q1, .ref q3, .int 0, .int 0, .int 0, .int (-1)])), (q7, .inr (0, [.ref q3, .ref (u_8 1), .ref (u_8 2), .ref (u_8 3), .ref (u_8 4), .ref (u_8 5), .ref (u_8 6), .ref (u_8 7), .int 0, .int 0, .int 0, .int 0, .int 0, .int 0, .int 0, .int 0]))] H := hP
  have hD : va_D A [(h0, .inr (6, [.ref q1, .ref q3, .ref q5, .ref q6, .ref q7, .ref q9, .ref q10, .int 0, .int 0, .int 0])), (q1, .inl (cA2, 60, .inl (fun _ => 0))), (q3, .inr (2, [.ref (u_4 0), .ref (u_4 1), .ref (u_4 2), .ref (u_4 3), .ref (u_4 4), .int 0])), (q5, .inr (1, [.ref q1, .ref q3, .int 0, .int 0, .int 0, .int (-1)])), (q7, .inr (0, [.ref q3, .ref (u_8 1), .ref (u_8 2), .ref (u_8 3), .ref (u_8 4), .ref (u_8 5), .ref (u_8 6), .ref (u_8 7), .int 0, .int 0, .int 0, .int 0, .int 0, .int 0, .int 0, .int 0]))] := hD
  have hP9 := hP.sub (ws' := [(h0, .inr (6, [.ref q1, .ref q3, .ref q5, .ref q6, .ref q7, .ref q9, .ref q10, .int 0, .int 0, .int 0])), (q1, .inl (cA2, 60, .inl (fun _ => 0))), (q3, .inr (2, [.ref (u_4 0), .ref (u_4 1), .ref (u_4 2), .ref (u_4 3), .ref (u_4 4), .int 0])), (q5, .inr (1, [.ref q1, .ref q3, .int 0, .int 0, .int 0, .int (-1)])), (q7, .inr (0, [.ref q3, .ref (u_8 1), .ref (u_8 2), .ref (u_8 3), .ref (u_8 4), .ref (u_8 5), .ref (u_8 6), .ref (u_8 7), .int 0, .int 0, .int 0, .int 0, .int 0, .int 0, .int 0, .int 0]))]) [0, 1, 2, 3, 4] rfl
  have hD9 := hD.sub (ws' := [(h0, .inr (6, [.ref q1, .ref q3, .ref q5, .ref q6, .ref q7, .ref q9, .ref q10, .int 0, .int 0, .int 0])), (q1, .inl (cA2, 60, .inl (fun _ => 0))), (q3, .inr (2, [.ref (u_4 0), .ref (u_4 1), .ref (u_4 2), .ref (u_4 3), .ref (u_4 4), .int 0])), (q5, .inr (1, [.ref q1, .ref q3, .int 0, .int 0, .int 0, .int (-1)])), (q7, .inr (0, [.ref q3, .ref (u_8 1), .ref (u_8 2), .ref (u_8 3), .ref (u_8 4), .ref (u_8 5), .ref (u_8 6), .ref (u_8 7), .int 0, .int 0, .int 0, .int 0, .int 0, .int 0, .int 0, .int 0]))]) [0, 1, 2, 3, 4] (by decide) rfl
  have hK9 := hK.sub (tys' := [(cA2, .int)]) [0] rfl
  refine W.widen (k := 34) (n := 7302) (by decide) (by decide) ?_
  exact W.vret hx hb hr (fun t9 ht9 hW => ⟨⟨((fun k => [q1, q3, q5, q6, q7, q9, q10, 0, 0, 0].getD k 0), (fun k => [u_4 0, u_4 1, u_4 2, u_4 3, u_4 4, 0].getD k 0), (fun k => [q3, u_8 1, u_8 2, u_8 3, u_8 4, u_8 5, u_8 6, u_8 7, 0, 0, 0, 0, 0, 0, 0, 0].getD k 0), cA2), rfl, trivial, by rw [ht9]; exact hP9, va_K.moved hW.alike hK9, hD9⟩, hS.F ht9⟩) hS.2.2 dX6_init_103
