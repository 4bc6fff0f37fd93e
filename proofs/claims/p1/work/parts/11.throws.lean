set_option maxHeartbeats 4000000 in
set_option maxRecDepth 100000 in
theorem c_infer (l : Launch) (hl9 : l.stackTraces = false) (dC : Nat → ClassId) (dI : Nat → Nat → Nat) (h0 : Nat) (u : Nat → Nat) (sa : Nat) (sz : Nat) : vx_Met l yX6_infer (Cond.code yX6_infer cX6_infer 3 (some .int) :: BG) ({ frames := 6, cells := 1, slots := 6, locals := 90 }) (va_Pc [.ref h0] (fun U => U.heap.size = sz ∧ va_P (dC, dI) vwCl [(h0, .inr (6, CO u 0 0 0))] U.heap ∧ va_K (dC, dI) vwCl [] U ∧ va_D (fun _ => True) [(h0, .inr (6, CO u 0 0 0))] ∧ XN "java/lang/IllegalStateException" 85 "a type is found for a parsed term" sa (va_A [(h0, .inr (6, CO u 0 0 0))] sz) U U.heap)) (va_Qi (fun (r9 : Int32) (u9 : Unit) => False) (fun (_ : Unit) (_ : State) => True) (va_A [(h0, .inr (6, CO u 0 0 0))] sz)) (vx_X (fun _ : Unit => True) (fun (E9 : String) (_ : Unit) (_ : State) => E9 = "java/lang/IllegalStateException") (va_A [(h0, .inr (6, CO u 0 0 0))] sz)) 1 6 (va_A [(h0, .inr (6, CO u 0 0 0))] sz) := by
  refine vx_ofW (cc := cX6_infer) (maxL := 3) (ret := (some .int)) (by decide) rfl ?_
  intro p e s m args below meth c s₁ B hml htab hv
  obtain ⟨rfl, hsz, hP, hK, hD0, hE⟩ := hv
  have hx := B.exec
  have hb := B.bytes
  have hr := B.returns
  have hts := atoms_spec (ws := Cond.code yX6_infer cX6_infer 3 (some .int) :: BG) B.pre
  have hB : ∀ w ∈ BG, w.before _ s = true := fun w h => hts w (List.mem_cons_of_mem _ h)
  have hown : s.vm.findClass RX6 = some m.cls := findClass_of_methodNamed B.named
  have hlocks := B.notSynchronized
  subst hsz
  have hD := hD0.self (sz := s.heap.size)
  generalize hAe : va_A [(h0, .inr (6, CO u 0 0 0))] s.heap.size = A at hD hE ⊢
  have hA : ∀ q : Nat, s.heap.size ≤ q → A q := fun q h => by rw [← hAe]; exact Or.inr h
  have hS : va_S A s.heap s.heap [] := va_S.rf
  have hP : va_P (dC, dI) vwCl [(h0, .inr (6, CO u 0 0 0))] s.heap := hP
  have hl := lv_entry ([.ref h0]) (n := 3) (Nat.le_of_ble_eq_true rfl)
  rw [lg_entry_eq]
  generalize (lg_sl ([.ref h0]) ++ List.replicate (3 - (lg_sl ([.ref h0])).length) Slot.unset).toArray = ls at hl ⊢
  have hl : lv_has ls 3 [(0, .ref h0)] := hl
  refine lv_aload_n hx hb dX6_infer_0 rfl (lv_at hl 0 rfl) ?_
  refine va_get (D := (dC, dI)) (ci := 6) (v := .int 0) (C := RX6) (T := TX6) (N := 10) hx hb hB inB6 hown hK hP 0 rfl rfl 8 (by decide) (hB _ bg86) (fun _ h9 => h9) rfl dX6_infer_1 ?_
  refine lv_iconst (v := 1) hx hb dX6_infer_4 (by decide) ?_
  refine lv_icmp_eq (tgt := 18) hx hb dX6_infer_5 (by decide) (fun c9 => absurd c9 (by decide)) (fun _ => ?_)
  obtain ⟨hE1, hE2, hE3, hE4, hE5, hE6, hE7⟩ := hE
  exact vx_throwS (rest := []) hx hb hl9 (own := RX6) (cls := "java/lang/IllegalStateException") (text := "a type is found for a parsed term") (names := ["java/lang/RuntimeException", "java/lang/Exception"]) (ik := 61) (is := 85) (ic := 65) hown (by decide +kernel) (by decide +kernel) (hB _ bg269) (hB _ bg270) hE5 (vx_hat (L := vx_atS RX6 65 "java/lang/IllegalStateException" ["java/lang/RuntimeException", "java/lang/Exception"]) (B := [.castable "java/lang/IllegalStateException" "java/lang/IllegalStateException", .declares ⟨"java/lang/RuntimeException", "<init>", "(Ljava/lang/String;)V"⟩, .declares ⟨"java/lang/Exception", "<init>", "(Ljava/lang/String;)V"⟩, .declares ⟨"java/lang/Throwable", "<init>", "(Ljava/lang/String;)V"⟩]) (fun w hw => hB w (inBx0 w hw)) (by decide +kernel) (vx_c (va_Nw.use rfl hE1) (vx_c (va_Nw.use rfl hE2) (vx_c (va_Nw.use rfl hE3) (vx_c (va_Nw.use rfl hE4) vx_n))))) (by decide +kernel) hE6 hE7 hS (by rw [hml]; exact hl.1) dX6_infer_8 dX6_infer_11 dX6_infer_12 dX6_infer_14 dX6_infer_17 (fun x hx => (htab x hx).elim) (Nat.le_of_ble_eq_true rfl) (Nat.le_of_ble_eq_true rfl) (Nat.le_of_ble_eq_true rfl) (Nat.le_of_ble_eq_true rfl) hlocks (fun t9 ha hz hq => ⟨(), trivial, rfl, hz, fun q h1 _ => hq q h1⟩) hS.2.2 (Nat.le_of_ble_eq_true rfl) (Nat.le_of_ble_eq_true rfl)
set_option maxHeartbeats 4000000 in
set_option maxRecDepth 100000 in
theorem c_run (l : Launch) (hl9 : l.stackTraces = false) (dC : Nat → ClassId) (dI : Nat → Nat → Nat) (h0 : Nat) (u : Nat → Nat) (t : Int32) (sa : Nat) (sz : Nat) : vx_Met l yX6_run (Cond.code yX6_run cX6_run 3 (some .int) :: BG) ({ frames := 6, cells := 1, slots := 6, locals := 90 }) (va_Pc [.ref h0, .int t] (fun U => U.heap.size = sz ∧ va_P (dC, dI) vwCl [(h0, .inr (6, CO u 0 0 0))] U.heap ∧ va_K (dC, dI) vwCl [] U ∧ va_D (fun _ => True) [(h0, .inr (6, CO u 0 0 0))] ∧ XN "java/lang/IllegalStateException" 109 "a typed term is run" sa (va_A [(h0, .inr (6, CO u 0 0 0))] sz) U U.heap)) (va_Qi (fun (r9 : Int32) (u9 : Unit) => False) (fun (_ : Unit) (_ : State) => True) (va_A [(h0, .inr (6, CO u 0 0 0))] sz)) (vx_X (fun _ : Unit => True) (fun (E9 : String) (_ : Unit) (_ : State) => E9 = "java/lang/IllegalStateException") (va_A [(h0, .inr (6, CO u 0 0 0))] sz)) 1 6 (va_A [(h0, .inr (6, CO u 0 0 0))] sz) := by
  refine vx_ofW (cc := cX6_run) (maxL := 3) (ret := (some .int)) (by decide) rfl ?_
  intro p e s m args below meth c s₁ B hml htab hv
  obtain ⟨rfl, hsz, hP, hK, hD0, hE⟩ := hv
  have hx := B.exec
  have hb := B.bytes
  have hr := B.returns
  have hts := atoms_spec (ws := Cond.code yX6_run cX6_run 3 (some .int) :: BG) B.pre
  have hB : ∀ w ∈ BG, w.before _ s = true := fun w h => hts w (List.mem_cons_of_mem _ h)
  have hown : s.vm.findClass RX6 = some m.cls := findClass_of_methodNamed B.named
  have hlocks := B.notSynchronized
  subst hsz
  have hD := hD0.self (sz := s.heap.size)
  generalize hAe : va_A [(h0, .inr (6, CO u 0 0 0))] s.heap.size = A at hD hE ⊢
  have hA : ∀ q : Nat, s.heap.size ≤ q → A q := fun q h => by rw [← hAe]; exact Or.inr h
  have hS : va_S A s.heap s.heap [] := va_S.rf
  have hP : va_P (dC, dI) vwCl [(h0, .inr (6, CO u 0 0 0))] s.heap := hP
  have hl := lv_entry ([.ref h0, .int t]) (n := 3) (Nat.le_of_ble_eq_true rfl)
  rw [lg_entry_eq]
  generalize (lg_sl ([.ref h0, .int t]) ++ List.replicate (3 - (lg_sl ([.ref h0, .int t])).length) Slot.unset).toArray = ls at hl ⊢
  have hl : lv_has ls 3 [(0, .ref h0), (1, .int t)] := hl
  refine lv_aload_n hx hb dX6_run_0 rfl (lv_at hl 0 rfl) ?_
  refine va_get (D := (dC, dI)) (ci := 6) (v := .int 0) (C := RX6) (T := TX6) (N := 10) hx hb hB inB6 hown hK hP 0 rfl rfl 8 (by decide) (hB _ bg86) (fun _ h9 => h9) rfl dX6_run_1 ?_
  refine lv_iconst (v := 2) hx hb dX6_run_4 (by decide) ?_
  refine lv_icmp_eq (tgt := 18) hx hb dX6_run_5 (by decide) (fun c9 => absurd c9 (by decide)) (fun _ => ?_)
  obtain ⟨hE1, hE2, hE3, hE4, hE5, hE6, hE7⟩ := hE
  exact vx_throwS (rest := []) hx hb hl9 (own := RX6) (cls := "java/lang/IllegalStateException") (text := "a typed term is run") (names := ["java/lang/RuntimeException", "java/lang/Exception"]) (ik := 61) (is := 109) (ic := 65) hown (by decide +kernel) (by decide +kernel) (hB _ bg269) (hB _ bg270) hE5 (vx_hat (L := vx_atS RX6 65 "java/lang/IllegalStateException" ["java/lang/RuntimeException", "java/lang/Exception"]) (B := [.castable "java/lang/IllegalStateException" "java/lang/IllegalStateException", .declares ⟨"java/lang/RuntimeException", "<init>", "(Ljava/lang/String;)V"⟩, .declares ⟨"java/lang/Exception", "<init>", "(Ljava/lang/String;)V"⟩, .declares ⟨"java/lang/Throwable", "<init>", "(Ljava/lang/String;)V"⟩]) (fun w hw => hB w (inBx0 w hw)) (by decide +kernel) (vx_c (va_Nw.use rfl hE1) (vx_c (va_Nw.use rfl hE2) (vx_c (va_Nw.use rfl hE3) (vx_c (va_Nw.use rfl hE4) vx_n))))) (by decide +kernel) hE6 hE7 hS (by rw [hml]; exact hl.1) dX6_run_8 dX6_run_11 dX6_run_12 dX6_run_14 dX6_run_17 (fun x hx => (htab x hx).elim) (Nat.le_of_ble_eq_true rfl) (Nat.le_of_ble_eq_true rfl) (Nat.le_of_ble_eq_true rfl) (Nat.le_of_ble_eq_true rfl) hlocks (fun t9 ha hz hq => ⟨(), trivial, rfl, hz, fun q h1 _ => hq q h1⟩) hS.2.2 (Nat.le_of_ble_eq_true rfl) (Nat.le_of_ble_eq_true rfl)
set_option maxHeartbeats 4000000 in
set_option maxRecDepth 100000 in
theorem c_typeAt (l : Launch) (hl9 : l.stackTraces = false) (dC : Nat → ClassId) (dI : Nat → Nat → Nat) (h0 : Nat) (u : Nat → Nat) (t : Int32) (sa : Nat) (sz : Nat) : vx_Met l yX6_typeAt (Cond.code yX6_typeAt cX6_typeAt 2 (some .int) :: BG) ({ frames := 6, cells := 1, slots := 6, locals := 90 }) (va_Pc [.ref h0, .int t] (fun U => U.heap.size = sz ∧ va_P (dC, dI) vwCl [(h0, .inr (6, CO u 0 0 0))] U.heap ∧ va_K (dC, dI) vwCl [] U ∧ va_D (fun _ => True) [(h0, .inr (6, CO u 0 0 0))] ∧ XN "java/util/NoSuchElementException" 128 "the type has no such word" sa (va_A [(h0, .inr (6, CO u 0 0 0))] sz) U U.heap)) (va_Qi (fun (r9 : Int32) (u9 : Unit) => False) (fun (_ : Unit) (_ : State) => True) (va_A [(h0, .inr (6, CO u 0 0 0))] sz)) (vx_X (fun _ : Unit => True) (fun (E9 : String) (_ : Unit) (_ : State) => E9 = "java/util/NoSuchElementException") (va_A [(h0, .inr (6, CO u 0 0 0))] sz)) 1 6 (va_A [(h0, .inr (6, CO u 0 0 0))] sz) := by
  refine vx_ofW (cc := cX6_typeAt) (maxL := 2) (ret := (some .int)) (by decide) rfl ?_
  intro p e s m args below meth c s₁ B hml htab hv
  obtain ⟨rfl, hsz, hP, hK, hD0, hE⟩ := hv
  have hx := B.exec
  have hb := B.bytes
  have hr := B.returns
  have hts := atoms_spec (ws := Cond.code yX6_typeAt cX6_typeAt 2 (some .int) :: BG) B.pre
  have hB : ∀ w ∈ BG, w.before _ s = true := fun w h => hts w (List.mem_cons_of_mem _ h)
  have hown : s.vm.findClass RX6 = some m.cls := findClass_of_methodNamed B.named
  have hlocks := B.notSynchronized
  subst hsz
  have hD := hD0.self (sz := s.heap.size)
  generalize hAe : va_A [(h0, .inr (6, CO u 0 0 0))] s.heap.size = A at hD hE ⊢
  have hA : ∀ q : Nat, s.heap.size ≤ q → A q := fun q h => by rw [← hAe]; exact Or.inr h
  have hS : va_S A s.heap s.heap [] := va_S.rf
  have hP : va_P (dC, dI) vwCl [(h0, .inr (6, CO u 0 0 0))] s.heap := hP
  have hl := lv_entry ([.ref h0, .int t]) (n := 2) (Nat.le_of_ble_eq_true rfl)
  rw [lg_entry_eq]
  generalize (lg_sl ([.ref h0, .int t]) ++ List.replicate (2 - (lg_sl ([.ref h0, .int t])).length) Slot.unset).toArray = ls at hl ⊢
  have hl : lv_has ls 2 [(0, .ref h0), (1, .int t)] := hl
  refine lv_aload_n hx hb dX6_typeAt_0 rfl (lv_at hl 0 rfl) ?_
  refine va_get (D := (dC, dI)) (ci := 6) (v := .int 0) (C := RX6) (T := TX6) (N := 10) hx hb hB inB6 hown hK hP 0 rfl rfl 8 (by decide) (hB _ bg86) (fun _ h9 => h9) rfl dX6_typeAt_1 ?_
  refine lv_iconst (v := 2) hx hb dX6_typeAt_4 (by decide) ?_
  refine lv_icmp_ne (tgt := 19) hx hb dX6_typeAt_5 (by decide) (fun _ => ?_) (fun c9 => absurd c9 (by decide))
  obtain ⟨hE1, hE2, hE3, hE4, hE5, hE6, hE7⟩ := hE
  exact tn_throwS (rest := []) hx hb hl9 (own := RX6) (text := "the type has no such word") (ik := 126) (is := 128) (ic := 130) hown (hB _ bg271) (hB _ bg272) hE5 (vx_hat (L := tn_at RX6 130) (B := [.castable "java/util/NoSuchElementException" "java/util/NoSuchElementException", .declares ⟨"java/lang/RuntimeException", "<init>", "(Ljava/lang/String;)V"⟩, .declares ⟨"java/lang/Exception", "<init>", "(Ljava/lang/String;)V"⟩, .declares ⟨"java/lang/Throwable", "<init>", "(Ljava/lang/String;)V"⟩]) (fun w hw => hB w (inBx1 w hw)) (by decide +kernel) (vx_c (va_Nw.use rfl hE1) (vx_c (va_Nw.use rfl hE2) (vx_c (va_Nw.use rfl hE3) (vx_c (va_Nw.use rfl hE4) vx_n))))) (by decide +kernel) hE6 hE7 hS (by rw [hml]; exact hl.1) dX6_typeAt_19 dX6_typeAt_22 dX6_typeAt_23 dX6_typeAt_25 dX6_typeAt_28 (fun x hx => (htab x hx).elim) (Nat.le_of_ble_eq_true rfl) (Nat.le_of_ble_eq_true rfl) (Nat.le_of_ble_eq_true rfl) (Nat.le_of_ble_eq_true rfl) hlocks (fun t9 ha hz hq => ⟨(), trivial, rfl, hz, fun q h1 _ => hq q h1⟩) hS.2.2 (Nat.le_of_ble_eq_true rfl) (Nat.le_of_ble_eq_true rfl)
set_option maxHeartbeats 4000000 in
set_option maxRecDepth 100000 in
theorem c_outAt (l : Launch) (hl9 : l.stackTraces = false) (dC : Nat → ClassId) (dI : Nat → Nat → Nat) (h0 : Nat) (u : Nat → Nat) (t : Int32) (sa : Nat) (sz : Nat) : vx_Met l yX6_outAt (Cond.code yX6_outAt cX6_outAt 2 (some .int) :: BG) ({ frames := 6, cells := 1, slots := 6, locals := 90 }) (va_Pc [.ref h0, .int t] (fun U => U.heap.size = sz ∧ va_P (dC, dI) vwCl [(h0, .inr (6, CO u 0 0 0))] U.heap ∧ va_K (dC, dI) vwCl [] U ∧ va_D (fun _ => True) [(h0, .inr (6, CO u 0 0 0))] ∧ XN "java/util/NoSuchElementException" 134 "the value has no such word" sa (va_A [(h0, .inr (6, CO u 0 0 0))] sz) U U.heap)) (va_Qi (fun (r9 : Int32) (u9 : Unit) => False) (fun (_ : Unit) (_ : State) => True) (va_A [(h0, .inr (6, CO u 0 0 0))] sz)) (vx_X (fun _ : Unit => True) (fun (E9 : String) (_ : Unit) (_ : State) => E9 = "java/util/NoSuchElementException") (va_A [(h0, .inr (6, CO u 0 0 0))] sz)) 1 6 (va_A [(h0, .inr (6, CO u 0 0 0))] sz) := by
  refine vx_ofW (cc := cX6_outAt) (maxL := 2) (ret := (some .int)) (by decide) rfl ?_
  intro p e s m args below meth c s₁ B hml htab hv
  obtain ⟨rfl, hsz, hP, hK, hD0, hE⟩ := hv
  have hx := B.exec
  have hb := B.bytes
  have hr := B.returns
  have hts := atoms_spec (ws := Cond.code yX6_outAt cX6_outAt 2 (some .int) :: BG) B.pre
  have hB : ∀ w ∈ BG, w.before _ s = true := fun w h => hts w (List.mem_cons_of_mem _ h)
  have hown : s.vm.findClass RX6 = some m.cls := findClass_of_methodNamed B.named
  have hlocks := B.notSynchronized
  subst hsz
  have hD := hD0.self (sz := s.heap.size)
  generalize hAe : va_A [(h0, .inr (6, CO u 0 0 0))] s.heap.size = A at hD hE ⊢
  have hA : ∀ q : Nat, s.heap.size ≤ q → A q := fun q h => by rw [← hAe]; exact Or.inr h
  have hS : va_S A s.heap s.heap [] := va_S.rf
  have hP : va_P (dC, dI) vwCl [(h0, .inr (6, CO u 0 0 0))] s.heap := hP
  have hl := lv_entry ([.ref h0, .int t]) (n := 2) (Nat.le_of_ble_eq_true rfl)
  rw [lg_entry_eq]
  generalize (lg_sl ([.ref h0, .int t]) ++ List.replicate (2 - (lg_sl ([.ref h0, .int t])).length) Slot.unset).toArray = ls at hl ⊢
  have hl : lv_has ls 2 [(0, .ref h0), (1, .int t)] := hl
  refine lv_aload_n hx hb dX6_outAt_0 rfl (lv_at hl 0 rfl) ?_
  refine va_get (D := (dC, dI)) (ci := 6) (v := .int 0) (C := RX6) (T := TX6) (N := 10) hx hb hB inB6 hown hK hP 0 rfl rfl 9 (by decide) (hB _ bg171) (fun _ h9 => h9) rfl dX6_outAt_1 ?_
  refine lv_if_eq (tgt := 18) hx hb dX6_outAt_4 (by decide) (fun _ => ?_) (fun c9 => absurd c9 (by decide))
  obtain ⟨hE1, hE2, hE3, hE4, hE5, hE6, hE7⟩ := hE
  exact tn_throwS (rest := []) hx hb hl9 (own := RX6) (text := "the value has no such word") (ik := 126) (is := 134) (ic := 130) hown (hB _ bg271) (hB _ bg272) hE5 (vx_hat (L := tn_at RX6 130) (B := [.castable "java/util/NoSuchElementException" "java/util/NoSuchElementException", .declares ⟨"java/lang/RuntimeException", "<init>", "(Ljava/lang/String;)V"⟩, .declares ⟨"java/lang/Exception", "<init>", "(Ljava/lang/String;)V"⟩, .declares ⟨"java/lang/Throwable", "<init>", "(Ljava/lang/String;)V"⟩]) (fun w hw => hB w (inBx1 w hw)) (by decide +kernel) (vx_c (va_Nw.use rfl hE1) (vx_c (va_Nw.use rfl hE2) (vx_c (va_Nw.use rfl hE3) (vx_c (va_Nw.use rfl hE4) vx_n))))) (by decide +kernel) hE6 hE7 hS (by rw [hml]; exact hl.1) dX6_outAt_18 dX6_outAt_21 dX6_outAt_22 dX6_outAt_24 dX6_outAt_27 (fun x hx => (htab x hx).elim) (Nat.le_of_ble_eq_true rfl) (Nat.le_of_ble_eq_true rfl) (Nat.le_of_ble_eq_true rfl) (Nat.le_of_ble_eq_true rfl) hlocks (fun t9 ha hz hq => ⟨(), trivial, rfl, hz, fun q h1 _ => hq q h1⟩) hS.2.2 (Nat.le_of_ble_eq_true rfl) (Nat.le_of_ble_eq_true rfl)
