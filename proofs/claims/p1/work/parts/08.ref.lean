set_option maxHeartbeats 4000000 in
set_option maxRecDepth 100000 in
theorem c_thrown0 (l : Launch) (dC : Nat → ClassId) (dI : Nat → Nat → Nat) (h0 : Nat) (fs : List Value) (sz : Nat) (hf : fs[0]? = some (.int 0)) : Met l yX7_thrown (Cond.code yX7_thrown cX7_thrown 1 (some .int) :: BG) ({ frames := 0, cells := 0, slots := 0, locals := 0 }) (va_Pc [.ref h0] (fun U => U.heap.size = sz ∧ va_P (dC, dI) vwCl [(h0, .inr (7, fs))] U.heap ∧ va_K (dC, dI) vwCl [] U ∧ va_D (fun _ => True) [(h0, .inr (7, fs))])) (va_Qi (fun (r9 : Int32) (u9 : Unit) => r9 = 0) (fun (_u : Unit) (t9 : State) => va_P (dC, dI) vwCl [] t9.heap ∧ va_K (dC, dI) vwCl [] t9 ∧ va_D (va_A [(h0, .inr (7, fs))] sz) []) (va_A [(h0, .inr (7, fs))] sz)) 0 0 (va_A [(h0, .inr (7, fs))] sz) := by
  refine Met.ofW (cc := cX7_thrown) (maxL := 1) (ret := (some .int)) (by decide) rfl ?_
  intro p e s m args below meth c s₁ B hml hv
  obtain ⟨rfl, hsz, hP, hK, hD0⟩ := hv
  have hx := B.exec
  have hb := B.bytes
  have hr := B.returns
  have hts := atoms_spec (ws := Cond.code yX7_thrown cX7_thrown 1 (some .int) :: BG) B.pre
  have hB : ∀ w ∈ BG, w.before _ s = true := fun w h => hts w (List.mem_cons_of_mem _ h)
  have hown : s.vm.findClass RX7 = some m.cls := findClass_of_methodNamed B.named
  have hlocks := B.notSynchronized
  subst hsz
  have hD := hD0.self (sz := s.heap.size)
  generalize hAe : va_A [(h0, .inr (7, fs))] s.heap.size = A at hD ⊢
  have hA : ∀ q : Nat, s.heap.size ≤ q → A q := fun q h => by rw [← hAe]; exact Or.inr h
  have hS : va_S A s.heap s.heap [] := va_S.rf
  have hP : va_P (dC, dI) vwCl [(h0, .inr (7, fs))] s.heap := hP
  have hl := lv_entry ([.ref h0]) (n := 1) (Nat.le_of_ble_eq_true rfl)
  rw [lg_entry_eq]
  generalize (lg_sl ([.ref h0]) ++ List.replicate (1 - (lg_sl ([.ref h0])).length) Slot.unset).toArray = ls at hl ⊢
  have hl : lv_has ls 1 [(0, .ref h0)] := hl
  refine lv_aload_n hx hb dX7_thrown_0 rfl (lv_at hl 0 rfl) ?_
  refine va_get (D := (dC, dI)) (ci := 7) (v := .int 0) (C := RX7) (T := TX7) (N := 55) hx hb hB inB7 hown hK hP 0 rfl rfl 0 (by decide) (hB _ bg220) (fun _ h9 => h9) hf dX7_thrown_1 ?_
  have hP9 := hP.sub (ws' := []) [] rfl
  have hD9 := hD.sub (ws' := []) [] (by decide) rfl
  have hK9 := hK.sub (tys' := []) [] rfl
  refine W.widen (k := 0) (n := 0) (by decide) (by decide) ?_
  exact W.iret (v := 0) hx hb hr (fun t9 ht9 hW => ⟨⟨0, (), rfl, rfl, by rw [ht9]; exact hP9, va_K.moved hW.alike hK9, hD9⟩, hS.F ht9⟩) hS.2.2 dX7_thrown_4
set_option maxHeartbeats 4000000 in
set_option maxRecDepth 100000 in
theorem c_thrown1 (l : Launch) (dC : Nat → ClassId) (dI : Nat → Nat → Nat) (h0 : Nat) (fs : List Value) (sz : Nat) (hf : fs[0]? = some (.int 1)) : Met l yX7_thrown (Cond.code yX7_thrown cX7_thrown 1 (some .int) :: BG) ({ frames := 0, cells := 0, slots := 0, locals := 0 }) (va_Pc [.ref h0] (fun U => U.heap.size = sz ∧ va_P (dC, dI) vwCl [(h0, .inr (7, fs))] U.heap ∧ va_K (dC, dI) vwCl [] U ∧ va_D (fun _ => True) [(h0, .inr (7, fs))])) (va_Qi (fun (r9 : Int32) (u9 : Unit) => r9 = 1) (fun (_u : Unit) (t9 : State) => va_P (dC, dI) vwCl [] t9.heap ∧ va_K (dC, dI) vwCl [] t9 ∧ va_D (va_A [(h0, .inr (7, fs))] sz) []) (va_A [(h0, .inr (7, fs))] sz)) 0 0 (va_A [(h0, .inr (7, fs))] sz) := by
  refine Met.ofW (cc := cX7_thrown) (maxL := 1) (ret := (some .int)) (by decide) rfl ?_
  intro p e s m args below meth c s₁ B hml hv
  obtain ⟨rfl, hsz, hP, hK, hD0⟩ := hv
  have hx := B.exec
  have hb := B.bytes
  have hr := B.returns
  have hts := atoms_spec (ws := Cond.code yX7_thrown cX7_thrown 1 (some .int) :: BG) B.pre
  have hB : ∀ w ∈ BG, w.before _ s = true := fun w h => hts w (List.mem_cons_of_mem _ h)
  have hown : s.vm.findClass RX7 = some m.cls := findClass_of_methodNamed B.named
  have hlocks := B.notSynchronized
  subst hsz
  have hD := hD0.self (sz := s.heap.size)
  generalize hAe : va_A [(h0, .inr (7, fs))] s.heap.size = A at hD ⊢
  have hA : ∀ q : Nat, s.heap.size ≤ q → A q := fun q h => by rw [← hAe]; exact Or.inr h
  have hS : va_S A s.heap s.heap [] := va_S.rf
  have hP : va_P (dC, dI) vwCl [(h0, .inr (7, fs))] s.heap := hP
  have hl := lv_entry ([.ref h0]) (n := 1) (Nat.le_of_ble_eq_true rfl)
  rw [lg_entry_eq]
  generalize (lg_sl ([.ref h0]) ++ List.replicate (1 - (lg_sl ([.ref h0])).length) Slot.unset).toArray = ls at hl ⊢
  have hl : lv_has ls 1 [(0, .ref h0)] := hl
  refine lv_aload_n hx hb dX7_thrown_0 rfl (lv_at hl 0 rfl) ?_
  refine va_get (D := (dC, dI)) (ci := 7) (v := .int 1) (C := RX7) (T := TX7) (N := 55) hx hb hB inB7 hown hK hP 0 rfl rfl 0 (by decide) (hB _ bg220) (fun _ h9 => h9) hf dX7_thrown_1 ?_
  have hP9 := hP.sub (ws' := []) [] rfl
  have hD9 := hD.sub (ws' := []) [] (by decide) rfl
  have hK9 := hK.sub (tys' := []) [] rfl
  refine W.widen (k := 0) (n := 0) (by decide) (by decide) ?_
  exact W.iret (v := 1) hx hb hr (fun t9 ht9 hW => ⟨⟨1, (), rfl, rfl, by rw [ht9]; exact hP9, va_K.moved hW.alike hK9, hD9⟩, hS.F ht9⟩) hS.2.2 dX7_thrown_4
set_option maxHeartbeats 4000000 in
set_option maxRecDepth 100000 in
theorem c_fails0 (l : Launch) (dC : Nat → ClassId) (dI : Nat → Nat → Nat) (h0 : Nat) (rf : Nat → Nat) (sz : Nat) : Met l yX7_fails (Cond.code yX7_fails cX7_fails 2 (some .boolean) :: BG) ({ frames := 0, cells := 0, slots := 0, locals := 0 }) (va_Pc [.ref h0, .int 0] (fun U => U.heap.size = sz ∧ va_P (dC, dI) vwCl [(h0, .inr (7, MO rf 0 0 0 0 0))] U.heap ∧ va_K (dC, dI) vwCl [] U ∧ va_D (fun _ => True) [(h0, .inr (7, MO rf 0 0 0 0 0))])) (va_Qi (fun (r9 : Int32) (u9 : Unit) => r9 = 0) (fun (_u : Unit) (t9 : State) => va_P (dC, dI) vwCl [(h0, .inr (7, MO rf 0 0 0 0 0))] t9.heap ∧ va_K (dC, dI) vwCl [] t9 ∧ va_D (va_A [(h0, .inr (7, MO rf 0 0 0 0 0))] sz) [(h0, .inr (7, MO rf 0 0 0 0 0))]) (va_A [(h0, .inr (7, MO rf 0 0 0 0 0))] sz)) 0 0 (va_A [(h0, .inr (7, MO rf 0 0 0 0 0))] sz) := by
  refine Met.ofW (cc := cX7_fails) (maxL := 2) (ret := (some .boolean)) (by decide) rfl ?_
  intro p e s m args below meth c s₁ B hml hv
  obtain ⟨rfl, hsz, hP, hK, hD0⟩ := hv
  have hx := B.exec
  have hb := B.bytes
  have hr := B.returns
  have hts := atoms_spec (ws := Cond.code yX7_fails cX7_fails 2 (some .boolean) :: BG) B.pre
  have hB : ∀ w ∈ BG, w.before _ s = true := fun w h => hts w (List.mem_cons_of_mem _ h)
  have hown : s.vm.findClass RX7 = some m.cls := findClass_of_methodNamed B.named
  have hlocks := B.notSynchronized
  subst hsz
  have hD := hD0.self (sz := s.heap.size)
  generalize hAe : va_A [(h0, .inr (7, MO rf 0 0 0 0 0))] s.heap.size = A at hD ⊢
  have hA : ∀ q : Nat, s.heap.size ≤ q → A q := fun q h => by rw [← hAe]; exact Or.inr h
  have hS : va_S A s.heap s.heap [] := va_S.rf
  have hP : va_P (dC, dI) vwCl [(h0, .inr (7, MO rf 0 0 0 0 0))] s.heap := hP
  have hl := lv_entry ([.ref h0, .int 0]) (n := 2) (Nat.le_of_ble_eq_true rfl)
  rw [lg_entry_eq]
  generalize (lg_sl ([.ref h0, .int 0]) ++ List.replicate (2 - (lg_sl ([.ref h0, .int 0])).length) Slot.unset).toArray = ls at hl ⊢
  have hl : lv_has ls 2 [(0, .ref h0), (1, .int 0)] := hl
  refine lv_aload_n hx hb dX7_fails_0 rfl (lv_at hl 0 rfl) ?_
  refine lv_iload_n hx hb dX7_fails_1 rfl (lv_at hl 1 rfl) ?_
  refine lv_if_eq (tgt := 9) hx hb dX7_fails_2 (by decide) (fun _ => ?_) (fun c9 => absurd c9 (by decide))
  refine lv_iconst (v := 0) hx hb dX7_fails_9 (by decide) ?_
  refine va_put (D := (dC, dI)) (ci := 7) (v := .int 0) (ty := .int) (C := RX7) (T := TX7) (N := 55) hx hb hB inB7 tyX7 tyX7_ok nmX7 hown hK hP hD hS 0 rfl rfl 0 (by decide) (hB _ bg220) (fun _ h9 => h9) rfl (by decide +kernel) rfl rfl (Nat.le_of_ble_eq_true rfl) dX7_fails_10 (fun H locs hP hD hS => ?_)
  have hP : va_P (dC, dI) vwCl [(h0, .inr (7, MO rf 0 0 0 0 0))] H := hP
  have hD : va_D A [(h0, .inr (7, MO rf 0 0 0 0 0))] := hD
  refine lv_iload_n hx hb dX7_fails_13 rfl (lv_at hl 1 rfl) ?_
  have hP9 := hP.sub (ws' := [(h0, .inr (7, MO rf 0 0 0 0 0))]) [0] rfl
  have hD9 := hD.sub (ws' := [(h0, .inr (7, MO rf 0 0 0 0 0))]) [0] (by decide) rfl
  have hK9 := hK.sub (tys' := []) [] rfl
  refine W.widen (k := 0) (n := 0) (by decide) (by decide) ?_
  exact W.zret (v := 0) hx hb hr (by decide) (fun t9 ht9 hW => ⟨⟨0, (), rfl, rfl, by rw [ht9]; exact hP9, va_K.moved hW.alike hK9, hD9⟩, hS.F ht9⟩) hS.2.2 dX7_fails_14
set_option maxHeartbeats 4000000 in
set_option maxRecDepth 100000 in
theorem c_fails1 (l : Launch) (dC : Nat → ClassId) (dI : Nat → Nat → Nat) (h0 : Nat) (rf : Nat → Nat) (sz : Nat) : Met l yX7_fails (Cond.code yX7_fails cX7_fails 2 (some .boolean) :: BG) ({ frames := 0, cells := 0, slots := 0, locals := 0 }) (va_Pc [.ref h0, .int 1] (fun U => U.heap.size = sz ∧ va_P (dC, dI) vwCl [(h0, .inr (7, MO rf 0 0 0 0 0))] U.heap ∧ va_K (dC, dI) vwCl [] U ∧ va_D (fun _ => True) [(h0, .inr (7, MO rf 0 0 0 0 0))])) (va_Qi (fun (r9 : Int32) (u9 : Unit) => r9 = 1) (fun (_u : Unit) (t9 : State) => va_P (dC, dI) vwCl [(h0, .inr (7, MO rf 1 0 0 0 0))] t9.heap ∧ va_K (dC, dI) vwCl [] t9 ∧ va_D (va_A [(h0, .inr (7, MO rf 0 0 0 0 0))] sz) [(h0, .inr (7, MO rf 1 0 0 0 0))]) (va_A [(h0, .inr (7, MO rf 0 0 0 0 0))] sz)) 0 0 (va_A [(h0, .inr (7, MO rf 0 0 0 0 0))] sz) := by
  refine Met.ofW (cc := cX7_fails) (maxL := 2) (ret := (some .boolean)) (by decide) rfl ?_
  intro p e s m args below meth c s₁ B hml hv
  obtain ⟨rfl, hsz, hP, hK, hD0⟩ := hv
  have hx := B.exec
  have hb := B.bytes
  have hr := B.returns
  have hts := atoms_spec (ws := Cond.code yX7_fails cX7_fails 2 (some .boolean) :: BG) B.pre
  have hB : ∀ w ∈ BG, w.before _ s = true := fun w h => hts w (List.mem_cons_of_mem _ h)
  have hown : s.vm.findClass RX7 = some m.cls := findClass_of_methodNamed B.named
  have hlocks := B.notSynchronized
  subst hsz
  have hD := hD0.self (sz := s.heap.size)
  generalize hAe : va_A [(h0, .inr (7, MO rf 0 0 0 0 0))] s.heap.size = A at hD ⊢
  have hA : ∀ q : Nat, s.heap.size ≤ q → A q := fun q h => by rw [← hAe]; exact Or.inr h
  have hS : va_S A s.heap s.heap [] := va_S.rf
  have hP : va_P (dC, dI) vwCl [(h0, .inr (7, MO rf 0 0 0 0 0))] s.heap := hP
  have hl := lv_entry ([.ref h0, .int 1]) (n := 2) (Nat.le_of_ble_eq_true rfl)
  rw [lg_entry_eq]
  generalize (lg_sl ([.ref h0, .int 1]) ++ List.replicate (2 - (lg_sl ([.ref h0, .int 1])).length) Slot.unset).toArray = ls at hl ⊢
  have hl : lv_has ls 2 [(0, .ref h0), (1, .int 1)] := hl
  refine lv_aload_n hx hb dX7_fails_0 rfl (lv_at hl 0 rfl) ?_
  refine lv_iload_n hx hb dX7_fails_1 rfl (lv_at hl 1 rfl) ?_
  refine lv_if_eq (tgt := 9) hx hb dX7_fails_2 (by decide) (fun c9 => absurd c9 (by decide)) (fun _ => ?_)
  refine lv_iconst (v := 1) hx hb dX7_fails_5 (by decide) ?_
  refine lv_goto (tgt := 10) hx hb dX7_fails_6 (by decide) ?_
  refine va_put (D := (dC, dI)) (ci := 7) (v := .int 1) (ty := .int) (C := RX7) (T := TX7) (N := 55) hx hb hB inB7 tyX7 tyX7_ok nmX7 hown hK hP hD hS 0 rfl rfl 0 (by decide) (hB _ bg220) (fun _ h9 => h9) rfl (by decide +kernel) rfl rfl (Nat.le_of_ble_eq_true rfl) dX7_fails_10 (fun H locs hP hD hS => ?_)
  have hP : va_P (dC, dI) vwCl [(h0, .inr (7, MO rf 1 0 0 0 0))] H := hP
  have hD : va_D A [(h0, .inr (7, MO rf 1 0 0 0 0))] := hD
  refine lv_iload_n hx hb dX7_fails_13 rfl (lv_at hl 1 rfl) ?_
  have hP9 := hP.sub (ws' := [(h0, .inr (7, MO rf 1 0 0 0 0))]) [0] rfl
  have hD9 := hD.sub (ws' := [(h0, .inr (7, MO rf 1 0 0 0 0))]) [0] (by decide) rfl
  have hK9 := hK.sub (tys' := []) [] rfl
  refine W.widen (k := 0) (n := 0) (by decide) (by decide) ?_
  exact W.zret (v := 1) hx hb hr (by decide) (fun t9 ht9 hW => ⟨⟨1, (), rfl, rfl, by rw [ht9]; exact hP9, va_K.moved hW.alike hK9, hD9⟩, hS.F ht9⟩) hS.2.2 dX7_fails_14
set_option maxHeartbeats 4000000 in
set_option maxRecDepth 100000 in
theorem c_misToken_y (l : Launch) (dC : Nat → ClassId) (dI : Nat → Nat → Nat) (t : Int32) (sz : Nat) (ht : tk t) : Met l yX7_isToken (Cond.code yX7_isToken cX7_isToken 1 (some .boolean) :: BG) ({ frames := 0, cells := 0, slots := 0, locals := 0 }) (va_Pc [.int t] (fun U => U.heap.size = sz ∧ va_P (dC, dI) vwCl [] U.heap ∧ va_K (dC, dI) vwCl [] U ∧ va_D (fun _ => True) [])) (va_Qi (fun (r9 : Int32) (u9 : Unit) => r9 = 1) (fun (_u : Unit) (t9 : State) => va_P (dC, dI) vwCl [] t9.heap ∧ va_K (dC, dI) vwCl [] t9 ∧ va_D (va_A [] sz) []) (va_A [] sz)) 0 0 (va_A [] sz) := by
  refine Met.ofW (cc := cX7_isToken) (maxL := 1) (ret := (some .boolean)) (by decide) rfl ?_
  intro p e s m args below meth c s₁ B hml hv
  obtain ⟨rfl, hsz, hP, hK, hD0⟩ := hv
  have hx := B.exec
  have hb := B.bytes
  have hr := B.returns
  have hts := atoms_spec (ws := Cond.code yX7_isToken cX7_isToken 1 (some .boolean) :: BG) B.pre
  have hB : ∀ w ∈ BG, w.before _ s = true := fun w h => hts w (List.mem_cons_of_mem _ h)
  have hown : s.vm.findClass RX7 = some m.cls := findClass_of_methodNamed B.named
  have hlocks := B.notSynchronized
  subst hsz
  have hD := hD0.self (sz := s.heap.size)
  generalize hAe : va_A [] s.heap.size = A at hD ⊢
  have hA : ∀ q : Nat, s.heap.size ≤ q → A q := fun q h => by rw [← hAe]; exact Or.inr h
  have hS : va_S A s.heap s.heap [] := va_S.rf
  have hP : va_P (dC, dI) vwCl [] s.heap := hP
  have hl := lv_entry ([.int t]) (n := 1) (Nat.le_of_ble_eq_true rfl)
  rw [lg_entry_eq]
  generalize (lg_sl ([.int t]) ++ List.replicate (1 - (lg_sl ([.int t])).length) Slot.unset).toArray = ls at hl ⊢
  have hl : lv_has ls 1 [(0, .int t)] := hl
  refine lv_iload_n hx hb dX7_isToken_0 rfl (lv_at hl 0 rfl) ?_
  refine lv_if_lt (tgt := 10) hx hb dX7_isToken_1 (by decide) (fun c_1 => ?_) (fun c_1 => ?_)
  · refine lv_iload_n hx hb dX7_isToken_10 rfl (lv_at hl 0 rfl) ?_
    refine lv_bipush (v := 100) hx hb dX7_isToken_11 (by decide) ?_
    refine lv_icmp_lt (tgt := 20) hx hb dX7_isToken_13 (by decide) (fun c_2 => ?_) (fun c_2 => ?_)
    · refine lv_iconst (v := 0) hx hb dX7_isToken_20 (by decide) ?_
      exfalso
      simp only [tk, Int32.lt_iff_toInt_lt, Int32.le_iff_toInt_le, i32_0, i32_29, i32_30, i32_100] at ht c_1 c_2
      omega
    · refine lv_iconst (v := 1) hx hb dX7_isToken_16 (by decide) ?_
      refine lv_goto (tgt := 21) hx hb dX7_isToken_17 (by decide) ?_
      have hP9 := hP.sub (ws' := []) [] rfl
      have hD9 := hD.sub (ws' := []) [] (by decide) rfl
      have hK9 := hK.sub (tys' := []) [] rfl
      refine W.widen (k := 0) (n := 0) (by decide) (by decide) ?_
      exact W.zret (v := 1) hx hb hr (by decide) (fun t9 ht9 hW => ⟨⟨1, (), rfl, rfl, by rw [ht9]; exact hP9, va_K.moved hW.alike hK9, hD9⟩, hS.F ht9⟩) hS.2.2 dX7_isToken_21
  · refine lv_iload_n hx hb dX7_isToken_4 rfl (lv_at hl 0 rfl) ?_
    refine lv_bipush (v := 30) hx hb dX7_isToken_5 (by decide) ?_
    refine lv_icmp_lt (tgt := 16) hx hb dX7_isToken_7 (by decide) (fun c_3 => ?_) (fun c_3 => ?_)
    · refine lv_iconst (v := 1) hx hb dX7_isToken_16 (by decide) ?_
      refine lv_goto (tgt := 21) hx hb dX7_isToken_17 (by decide) ?_
      have hP9 := hP.sub (ws' := []) [] rfl
      have hD9 := hD.sub (ws' := []) [] (by decide) rfl
      have hK9 := hK.sub (tys' := []) [] rfl
      refine W.widen (k := 0) (n := 0) (by decide) (by decide) ?_
      exact W.zret (v := 1) hx hb hr (by decide) (fun t9 ht9 hW => ⟨⟨1, (), rfl, rfl, by rw [ht9]; exact hP9, va_K.moved hW.alike hK9, hD9⟩, hS.F ht9⟩) hS.2.2 dX7_isToken_21
    · refine lv_iload_n hx hb dX7_isToken_10 rfl (lv_at hl 0 rfl) ?_
      refine lv_bipush (v := 100) hx hb dX7_isToken_11 (by decide) ?_
      refine lv_icmp_lt (tgt := 20) hx hb dX7_isToken_13 (by decide) (fun c_4 => ?_) (fun c_4 => ?_)
      · refine lv_iconst (v := 0) hx hb dX7_isToken_20 (by decide) ?_
        exfalso
        simp only [tk, Int32.lt_iff_toInt_lt, Int32.le_iff_toInt_le, i32_0, i32_29, i32_30, i32_100] at ht c_1 c_3 c_4
        omega
      · refine lv_iconst (v := 1) hx hb dX7_isToken_16 (by decide) ?_
        refine lv_goto (tgt := 21) hx hb dX7_isToken_17 (by decide) ?_
        have hP9 := hP.sub (ws' := []) [] rfl
        have hD9 := hD.sub (ws' := []) [] (by decide) rfl
        have hK9 := hK.sub (tys' := []) [] rfl
        refine W.widen (k := 0) (n := 0) (by decide) (by decide) ?_
        exact W.zret (v := 1) hx hb hr (by decide) (fun t9 ht9 hW => ⟨⟨1, (), rfl, rfl, by rw [ht9]; exact hP9, va_K.moved hW.alike hK9, hD9⟩, hS.F ht9⟩) hS.2.2 dX7_isToken_21
set_option maxHeartbeats 4000000 in
set_option maxRecDepth 100000 in
theorem c_misToken_n (l : Launch) (dC : Nat → ClassId) (dI : Nat → Nat → Nat) (t : Int32) (sz : Nat) (ht : ¬ tk t) : Met l yX7_isToken (Cond.code yX7_isToken cX7_isToken 1 (some .boolean) :: BG) ({ frames := 0, cells := 0, slots := 0, locals := 0 }) (va_Pc [.int t] (fun U => U.heap.size = sz ∧ va_P (dC, dI) vwCl [] U.heap ∧ va_K (dC, dI) vwCl [] U ∧ va_D (fun _ => True) [])) (va_Qi (fun (r9 : Int32) (u9 : Unit) => r9 = 0) (fun (_u : Unit) (t9 : State) => va_P (dC, dI) vwCl [] t9.heap ∧ va_K (dC, dI) vwCl [] t9 ∧ va_D (va_A [] sz) []) (va_A [] sz)) 0 0 (va_A [] sz) := by
  refine Met.ofW (cc := cX7_isToken) (maxL := 1) (ret := (some .boolean)) (by decide) rfl ?_
  intro p e s m args below meth c s₁ B hml hv
  obtain ⟨rfl, hsz, hP, hK, hD0⟩ := hv
  have hx := B.exec
  have hb := B.bytes
  have hr := B.returns
  have hts := atoms_spec (ws := Cond.code yX7_isToken cX7_isToken 1 (some .boolean) :: BG) B.pre
  have hB : ∀ w ∈ BG, w.before _ s = true := fun w h => hts w (List.mem_cons_of_mem _ h)
  have hown : s.vm.findClass RX7 = some m.cls := findClass_of_methodNamed B.named
  have hlocks := B.notSynchronized
  subst hsz
  have hD := hD0.self (sz := s.heap.size)
  generalize hAe : va_A [] s.heap.size = A at hD ⊢
  have hA : ∀ q : Nat, s.heap.size ≤ q → A q := fun q h => by rw [← hAe]; exact Or.inr h
  have hS : va_S A s.heap s.heap [] := va_S.rf
  have hP : va_P (dC, dI) vwCl [] s.heap := hP
  have hl := lv_entry ([.int t]) (n := 1) (Nat.le_of_ble_eq_true rfl)
  rw [lg_entry_eq]
  generalize (lg_sl ([.int t]) ++ List.replicate (1 - (lg_sl ([.int t])).length) Slot.unset).toArray = ls at hl ⊢
  have hl : lv_has ls 1 [(0, .int t)] := hl
  refine lv_iload_n hx hb dX7_isToken_0 rfl (lv_at hl 0 rfl) ?_
  refine lv_if_lt (tgt := 10) hx hb dX7_isToken_1 (by decide) (fun c_1 => ?_) (fun c_1 => ?_)
  · refine lv_iload_n hx hb dX7_isToken_10 rfl (lv_at hl 0 rfl) ?_
    refine lv_bipush (v := 100) hx hb dX7_isToken_11 (by decide) ?_
    refine lv_icmp_lt (tgt := 20) hx hb dX7_isToken_13 (by decide) (fun c_2 => ?_) (fun c_2 => ?_)
    · refine lv_iconst (v := 0) hx hb dX7_isToken_20 (by decide) ?_
      have hP9 := hP.sub (ws' := []) [] rfl
      have hD9 := hD.sub (ws' := []) [] (by decide) rfl
      have hK9 := hK.sub (tys' := []) [] rfl
      refine W.widen (k := 0) (n := 0) (by decide) (by decide) ?_
      exact W.zret (v := 0) hx hb hr (by decide) (fun t9 ht9 hW => ⟨⟨0, (), rfl, rfl, by rw [ht9]; exact hP9, va_K.moved hW.alike hK9, hD9⟩, hS.F ht9⟩) hS.2.2 dX7_isToken_21
    · refine lv_iconst (v := 1) hx hb dX7_isToken_16 (by decide) ?_
      refine lv_goto (tgt := 21) hx hb dX7_isToken_17 (by decide) ?_
      exfalso
      simp only [tk, Int32.lt_iff_toInt_lt, Int32.le_iff_toInt_le, i32_0, i32_29, i32_30, i32_100] at ht c_1 c_2
      omega
  · refine lv_iload_n hx hb dX7_isToken_4 rfl (lv_at hl 0 rfl) ?_
    refine lv_bipush (v := 30) hx hb dX7_isToken_5 (by decide) ?_
    refine lv_icmp_lt (tgt := 16) hx hb dX7_isToken_7 (by decide) (fun c_3 => ?_) (fun c_3 => ?_)
    · refine lv_iconst (v := 1) hx hb dX7_isToken_16 (by decide) ?_
      refine lv_goto (tgt := 21) hx hb dX7_isToken_17 (by decide) ?_
      exfalso
      simp only [tk, Int32.lt_iff_toInt_lt, Int32.le_iff_toInt_le, i32_0, i32_29, i32_30, i32_100] at ht c_1 c_3
      omega
    · refine lv_iload_n hx hb dX7_isToken_10 rfl (lv_at hl 0 rfl) ?_
      refine lv_bipush (v := 100) hx hb dX7_isToken_11 (by decide) ?_
      refine lv_icmp_lt (tgt := 20) hx hb dX7_isToken_13 (by decide) (fun c_4 => ?_) (fun c_4 => ?_)
      · refine lv_iconst (v := 0) hx hb dX7_isToken_20 (by decide) ?_
        have hP9 := hP.sub (ws' := []) [] rfl
        have hD9 := hD.sub (ws' := []) [] (by decide) rfl
        have hK9 := hK.sub (tys' := []) [] rfl
        refine W.widen (k := 0) (n := 0) (by decide) (by decide) ?_
        exact W.zret (v := 0) hx hb hr (by decide) (fun t9 ht9 hW => ⟨⟨0, (), rfl, rfl, by rw [ht9]; exact hP9, va_K.moved hW.alike hK9, hD9⟩, hS.F ht9⟩) hS.2.2 dX7_isToken_21
      · refine lv_iconst (v := 1) hx hb dX7_isToken_16 (by decide) ?_
        refine lv_goto (tgt := 21) hx hb dX7_isToken_17 (by decide) ?_
        exfalso
        simp only [tk, Int32.lt_iff_toInt_lt, Int32.le_iff_toInt_le, i32_0, i32_29, i32_30, i32_100] at ht c_1 c_3 c_4
        omega
set_option maxHeartbeats 4000000 in
set_option maxRecDepth 100000 in
theorem c_mtoken_y (l : Launch) (dC : Nat → ClassId) (dI : Nat → Nat → Nat) (h0 : Nat) (rf : Nat → Nat) (cA : ClassId) (t : Int32) (sz : Nat) (ht : tk t) : Met l yX7_token (Cond.code yX7_token cX7_token 2 (some .boolean) :: BG) ({ frames := 1, cells := 0, slots := 0, locals := 21 }) (va_Pc [.ref h0, .int t] (fun U => U.heap.size = sz ∧ va_P (dC, dI) vwCl [(h0, .inr (7, MO rf 0 0 0 0 0)), (rf 2, .inl (cA, 60, .inl (fun _ => 0)))] U.heap ∧ va_K (dC, dI) vwCl [(cA, .int)] U ∧ va_D (fun _ => True) [(h0, .inr (7, MO rf 0 0 0 0 0)), (rf 2, .inl (cA, 60, .inl (fun _ => 0)))])) (va_Qi (fun (r9 : Int32) (fs : List Value) => r9 = 1 ∧ fs[0]? = some (.int 0)) (fun (fs : List Value) (t9 : State) => va_P (dC, dI) vwCl [(h0, .inr (7, fs))] t9.heap ∧ va_K (dC, dI) vwCl [] t9 ∧ va_D (va_A [(h0, .inr (7, MO rf 0 0 0 0 0)), (rf 2, .inl (cA, 60, .inl (fun _ => 0)))] sz) [(h0, .inr (7, fs))]) (va_A [(h0, .inr (7, MO rf 0 0 0 0 0)), (rf 2, .inl (cA, 60, .inl (fun _ => 0)))] sz)) 0 0 (va_A [(h0, .inr (7, MO rf 0 0 0 0 0)), (rf 2, .inl (cA, 60, .inl (fun _ => 0)))] sz) := by
  refine Met.ofW (cc := cX7_token) (maxL := 2) (ret := (some .boolean)) (by decide) rfl ?_
  intro p e s m args below meth c s₁ B hml hv
  obtain ⟨rfl, hsz, hP, hK, hD0⟩ := hv
  have hx := B.exec
  have hb := B.bytes
  have hr := B.returns
  have hts := atoms_spec (ws := Cond.code yX7_token cX7_token 2 (some .boolean) :: BG) B.pre
  have hB : ∀ w ∈ BG, w.before _ s = true := fun w h => hts w (List.mem_cons_of_mem _ h)
  have hown : s.vm.findClass RX7 = some m.cls := findClass_of_methodNamed B.named
  have hlocks := B.notSynchronized
  subst hsz
  have hD := hD0.self (sz := s.heap.size)
  generalize hAe : va_A [(h0, .inr (7, MO rf 0 0 0 0 0)), (rf 2, .inl (cA, 60, .inl (fun _ => 0)))] s.heap.size = A at hD ⊢
  have hA : ∀ q : Nat, s.heap.size ≤ q → A q := fun q h => by rw [← hAe]; exact Or.inr h
  have hS : va_S A s.heap s.heap [] := va_S.rf
  have hP : va_P (dC, dI) vwCl [(h0, .inr (7, MO rf 0 0 0 0 0)), (rf 2, .inl (cA, 60, .inl (fun _ => 0)))] s.heap := hP
  have hl := lv_entry ([.ref h0, .int t]) (n := 2) (Nat.le_of_ble_eq_true rfl)
  rw [lg_entry_eq]
  generalize (lg_sl ([.ref h0, .int t]) ++ List.replicate (2 - (lg_sl ([.ref h0, .int t])).length) Slot.unset).toArray = ls at hl ⊢
  have hl : lv_has ls 2 [(0, .ref h0), (1, .int t)] := hl
  refine lv_aload_n hx hb dX7_token_0 rfl (lv_at hl 0 rfl) ?_
  refine lv_aload_n hx hb dX7_token_1 rfl (lv_at hl 0 rfl) ?_
  refine va_get (D := (dC, dI)) (ci := 7) (v := .int 0) (C := RX7) (T := TX7) (N := 55) hx hb hB inB7 hown hK hP 0 rfl rfl 1 (by decide) (hB _ bg221) (fun _ h9 => h9) rfl dX7_token_2 ?_
  refine lv_if_eq (tgt := 12) hx hb dX7_token_5 (by decide) (fun _ => ?_) (fun c9 => absurd c9 (by decide))
  refine lv_iconst (v := 0) hx hb dX7_token_12 (by decide) ?_
  have hPc := hP.sub (ws' := [(h0, .inr (7, MO rf 0 0 0 0 0))]) [0] rfl
  have hDc := hD.sub (ws' := [(h0, .inr (7, MO rf 0 0 0 0 0))]) [0] (by decide) rfl
  have hKc := hK.sub (tys' := []) [] rfl
  have hFc := va_free (wc := [(h0, .inr (7, MO rf 0 0 0 0 0))]) hD hS hA [0] rfl
  refine va_calli (va_runV (As := [.int 0]) (rest := []) ⟨hx, hb, hml, hown, hB⟩ (c_fails0 l dC dI h0 rf s.heap.size) (cwV 1 hB (bgV bg222 bg223 bg224 bg225 bg226) rfl rfl rfl (by decide +kernel) ⟨Nat.le_of_ble_eq_true rfl, Nat.le_of_ble_eq_true rfl⟩) ⟨fun a U g mk q => by obtain ⟨q0, q1, qP, qK, qD⟩ := q; exact ⟨q0, q1, qP, va_K.moved (u := U) (U := U.calling g mk a) (Vm.Alike.refl U.vm) qK, qD⟩, va_recv hKc hPc (ci := 7) (q0 := 0) rfl rfl, fun U hU hW => ⟨rfl, by rw [hU], by rw [hU]; exact hPc, va_K.moved hW.alike hKc, hDc.weaken (fun _ _ _ _ => trivial)⟩⟩ rfl rfl hl.1 rfl (lv_room (Nat.le_of_ble_eq_true rfl)) dX7_token_13 ⟨Nat.le_of_ble_eq_true rfl, Nat.le_of_ble_eq_true rfl⟩) hS (fun q _ h => hFc q h) hFc (fun r9 u9 t9 H1 locs ht9 hvm hw hB1 hz1 hk1 hS => ?_)
  try dsimp only at hB1 hw
  obtain ⟨hP1, hK1, hD1⟩ := hB1
  rw [ht9] at hP1
  have hK1 := va_K.moved hvm.symm hK1
  obtain rfl := hw
  obtain ⟨hP, hD⟩ := va_join (wr := [(rf 2, .inl (cA, 60, .inl (fun _ => 0)))]) (w1 := [(h0, .inr (7, MO rf 0 0 0 0 0))]) hP hD [0] [1] rfl rfl (by decide) (by decide) hk1 hFc hP1 hD1
  have hK := (hK.sub (tys' := [(cA, .int)]) [0] rfl).app hK1
  generalize H1 = H at hP hS ⊢
  have hP : va_P (dC, dI) vwCl [(rf 2, .inl (cA, 60, .inl (fun _ => 0))), (h0, .inr (7, MO rf 0 0 0 0 0))] H := hP
  have hD : va_D A [(rf 2, .inl (cA, 60, .inl (fun _ => 0))), (h0, .inr (7, MO rf 0 0 0 0 0))] := hD
  have hK : va_K (dC, dI) vwCl [(cA, .int)] s := hK
  refine lv_if_ne (tgt := 35) hx hb dX7_token_16 (by decide) (fun c9 => absurd c9 (by decide)) (fun _ => ?_)
  refine lv_iload_n hx hb dX7_token_19 rfl (lv_at hl 1 rfl) ?_
  have hPc := hP.sub (ws' := []) [] rfl
  have hDc := hD.sub (ws' := []) [] (by decide) rfl
  have hKc := hK.sub (tys' := []) [] rfl
  have hFc := va_free (wc := []) hD hS hA [] rfl
  refine va_calli (va_runS (As := [.int t]) (rest := []) ⟨hx, hb, hml, hown, hB⟩ (c_misToken_y l dC dI t H.size ht) (cwS 1 hB (bgS bg227 bg228 bg225 bg229) rfl rfl rfl (by decide +kernel) ⟨Nat.le_of_ble_eq_true rfl, Nat.le_of_ble_eq_true rfl⟩) ⟨fun a U g mk q => by obtain ⟨q0, q1, qP, qK, qD⟩ := q; exact ⟨q0, q1, qP, va_K.moved (u := U) (U := U.calling g mk a) (Vm.Alike.refl U.vm) qK, qD⟩, fun U hU hW => ⟨rfl, by rw [hU], by rw [hU]; exact hPc, va_K.moved hW.alike hKc, hDc.weaken (fun _ _ _ _ => trivial)⟩⟩ rfl rfl hl.1 rfl (lv_room (Nat.le_of_ble_eq_true rfl)) dX7_token_20 ⟨Nat.le_of_ble_eq_true rfl, Nat.le_of_ble_eq_true rfl⟩) hS (fun q _ h => hFc q h) hFc (fun r9 u9 t9 H1 locs ht9 hvm hw hB1 hz1 hk1 hS => ?_)
  try dsimp only at hB1 hw
  obtain ⟨hP1, hK1, hD1⟩ := hB1
  rw [ht9] at hP1
  have hK1 := va_K.moved hvm.symm hK1
  obtain rfl := hw
  obtain ⟨hP, hD⟩ := va_join (wr := [(rf 2, .inl (cA, 60, .inl (fun _ => 0))), (h0, .inr (7, MO rf 0 0 0 0 0))]) (w1 := []) hP hD [] [0, 1] rfl rfl (by decide) (by decide) hk1 hFc hP1 hD1
  have hK := (hK.sub (tys' := [(cA, .int)]) [0] rfl).app hK1
  generalize H1 = H at hP hS ⊢
  have hP : va_P (dC, dI) vwCl [(rf 2, .inl (cA, 60, .inl (fun _ => 0))), (h0, .inr (7, MO rf 0 0 0 0 0))] H := hP
  have hD : va_D A [(rf 2, .inl (cA, 60, .inl (fun _ => 0))), (h0, .inr (7, MO rf 0 0 0 0 0))] := hD
  have hK : va_K (dC, dI) vwCl [(cA, .int)] s := hK
  refine lv_if_eq (tgt := 35) hx hb dX7_token_23 (by decide) (fun c9 => absurd c9 (by decide)) (fun _ => ?_)
  refine lv_aload_n hx hb dX7_token_26 rfl (lv_at hl 0 rfl) ?_
  refine va_get (D := (dC, dI)) (ci := 7) (v := .int 0) (C := RX7) (T := TX7) (N := 55) hx hb hB inB7 hown hK hP 1 rfl rfl 3 (by decide) (hB _ bg230) (fun _ h9 => h9) rfl dX7_token_27 ?_
  refine lv_bipush (v := 60) hx hb dX7_token_30 (by decide) ?_
  refine lv_icmp_ne (tgt := 37) hx hb dX7_token_32 (by decide) (fun _ => ?_) (fun c9 => absurd c9 (by decide))
  refine lv_aload_n hx hb dX7_token_37 rfl (lv_at hl 0 rfl) ?_
  refine va_get (D := (dC, dI)) (ci := 7) (v := .ref (rf 2)) (C := RX7) (T := TX7) (N := 55) hx hb hB inB7 hown hK hP 1 rfl rfl 2 (by decide) (hB _ bg185) (fun _ h9 => h9) rfl dX7_token_38 ?_
  refine lv_aload_n hx hb dX7_token_41 rfl (lv_at hl 0 rfl) ?_
  refine va_get (D := (dC, dI)) (ci := 7) (v := .int 0) (C := RX7) (T := TX7) (N := 55) hx hb hB inB7 hown hK hP 1 rfl rfl 3 (by decide) (hB _ bg230) (fun _ h9 => h9) rfl dX7_token_42 ?_
  refine lv_iload_n hx hb dX7_token_45 rfl (lv_at hl 1 rfl) ?_
  refine va_iast hx hb hK hP hD hS 0 0 rfl rfl (i := 0) (x := t) (by rw [vp_in_iff]; decide) dX7_token_46 (fun H locs hP hD hS => ?_)
  obtain ⟨f1, ef1⟩ : ∃ z, z = upd (fun _ => 0) (0 : Int32).toNatClampNeg t := ⟨_, rfl⟩
  rw [← ef1] at hP hD
  have hP : va_P (dC, dI) vwCl [(rf 2, .inl (cA, 60, .inl f1)), (h0, .inr (7, MO rf 0 0 0 0 0))] H := hP
  have hD : va_D A [(rf 2, .inl (cA, 60, .inl f1)), (h0, .inr (7, MO rf 0 0 0 0 0))] := hD
  refine lv_aload_n hx hb dX7_token_47 rfl (lv_at hl 0 rfl) ?_
  refine lv_dup hx hb dX7_token_48 rfl ?_
  refine va_get (D := (dC, dI)) (ci := 7) (v := .int 0) (C := RX7) (T := TX7) (N := 55) hx hb hB inB7 hown hK hP 1 rfl rfl 3 (by decide) (hB _ bg230) (fun _ h9 => h9) rfl dX7_token_49 ?_
  refine lv_iconst (v := 1) hx hb dX7_token_52 (by decide) ?_
  refine lv_iadd hx hb dX7_token_53 ?_
  rw [show (0 : Int32) + 1 = 1 by decide]
  refine va_put (D := (dC, dI)) (ci := 7) (v := .int 1) (ty := .int) (C := RX7) (T := TX7) (N := 55) hx hb hB inB7 tyX7 tyX7_ok nmX7 hown hK hP hD hS 1 rfl rfl 3 (by decide) (hB _ bg230) (fun _ h9 => h9) rfl (by decide +kernel) rfl rfl (Nat.le_of_ble_eq_true rfl) dX7_token_54 (fun H locs hP hD hS => ?_)
  have hP : va_P (dC, dI) vwCl [(rf 2, .inl (cA, 60, .inl f1)), (h0, .inr (7, MO rf 0 1 0 0 0))] H := hP
  have hD : va_D A [(rf 2, .inl (cA, 60, .inl f1)), (h0, .inr (7, MO rf 0 1 0 0 0))] := hD
  refine lv_iconst (v := 1) hx hb dX7_token_57 (by decide) ?_
  have hP9 := hP.sub (ws' := [(h0, .inr (7, MO rf 0 1 0 0 0))]) [1] rfl
  have hD9 := hD.sub (ws' := [(h0, .inr (7, MO rf 0 1 0 0 0))]) [1] (by decide) rfl
  have hK9 := hK.sub (tys' := []) [] rfl
  refine W.widen (k := 0) (n := 0) (by decide) (by decide) ?_
  exact W.zret (v := 1) hx hb hr (by decide) (fun t9 ht9 hW => ⟨⟨1, (MO rf 0 1 0 0 0), rfl, ⟨rfl, rfl⟩, by rw [ht9]; exact hP9, va_K.moved hW.alike hK9, hD9⟩, hS.F ht9⟩) hS.2.2 dX7_token_58
set_option maxHeartbeats 4000000 in
set_option maxRecDepth 100000 in
theorem c_mtoken_n (l : Launch) (dC : Nat → ClassId) (dI : Nat → Nat → Nat) (h0 : Nat) (rf : Nat → Nat) (cA : ClassId) (t : Int32) (sz : Nat) (ht : ¬ tk t) : Met l yX7_token (Cond.code yX7_token cX7_token 2 (some .boolean) :: BG) ({ frames := 1, cells := 0, slots := 0, locals := 21 }) (va_Pc [.ref h0, .int t] (fun U => U.heap.size = sz ∧ va_P (dC, dI) vwCl [(h0, .inr (7, MO rf 0 0 0 0 0)), (rf 2, .inl (cA, 60, .inl (fun _ => 0)))] U.heap ∧ va_K (dC, dI) vwCl [(cA, .int)] U ∧ va_D (fun _ => True) [(h0, .inr (7, MO rf 0 0 0 0 0)), (rf 2, .inl (cA, 60, .inl (fun _ => 0)))])) (va_Qi (fun (r9 : Int32) (fs : List Value) => r9 = 0 ∧ fs[0]? = some (.int 0)) (fun (fs : List Value) (t9 : State) => va_P (dC, dI) vwCl [(h0, .inr (7, fs))] t9.heap ∧ va_K (dC, dI) vwCl [] t9 ∧ va_D (va_A [(h0, .inr (7, MO rf 0 0 0 0 0)), (rf 2, .inl (cA, 60, .inl (fun _ => 0)))] sz) [(h0, .inr (7, fs))]) (va_A [(h0, .inr (7, MO rf 0 0 0 0 0)), (rf 2, .inl (cA, 60, .inl (fun _ => 0)))] sz)) 0 0 (va_A [(h0, .inr (7, MO rf 0 0 0 0 0)), (rf 2, .inl (cA, 60, .inl (fun _ => 0)))] sz) := by
  refine Met.ofW (cc := cX7_token) (maxL := 2) (ret := (some .boolean)) (by decide) rfl ?_
  intro p e s m args below meth c s₁ B hml hv
  obtain ⟨rfl, hsz, hP, hK, hD0⟩ := hv
  have hx := B.exec
  have hb := B.bytes
  have hr := B.returns
  have hts := atoms_spec (ws := Cond.code yX7_token cX7_token 2 (some .boolean) :: BG) B.pre
  have hB : ∀ w ∈ BG, w.before _ s = true := fun w h => hts w (List.mem_cons_of_mem _ h)
  have hown : s.vm.findClass RX7 = some m.cls := findClass_of_methodNamed B.named
  have hlocks := B.notSynchronized
  subst hsz
  have hD := hD0.self (sz := s.heap.size)
  generalize hAe : va_A [(h0, .inr (7, MO rf 0 0 0 0 0)), (rf 2, .inl (cA, 60, .inl (fun _ => 0)))] s.heap.size = A at hD ⊢
  have hA : ∀ q : Nat, s.heap.size ≤ q → A q := fun q h => by rw [← hAe]; exact Or.inr h
  have hS : va_S A s.heap s.heap [] := va_S.rf
  have hP : va_P (dC, dI) vwCl [(h0, .inr (7, MO rf 0 0 0 0 0)), (rf 2, .inl (cA, 60, .inl (fun _ => 0)))] s.heap := hP
  have hl := lv_entry ([.ref h0, .int t]) (n := 2) (Nat.le_of_ble_eq_true rfl)
  rw [lg_entry_eq]
  generalize (lg_sl ([.ref h0, .int t]) ++ List.replicate (2 - (lg_sl ([.ref h0, .int t])).length) Slot.unset).toArray = ls at hl ⊢
  have hl : lv_has ls 2 [(0, .ref h0), (1, .int t)] := hl
  refine lv_aload_n hx hb dX7_token_0 rfl (lv_at hl 0 rfl) ?_
  refine lv_aload_n hx hb dX7_token_1 rfl (lv_at hl 0 rfl) ?_
  refine va_get (D := (dC, dI)) (ci := 7) (v := .int 0) (C := RX7) (T := TX7) (N := 55) hx hb hB inB7 hown hK hP 0 rfl rfl 1 (by decide) (hB _ bg221) (fun _ h9 => h9) rfl dX7_token_2 ?_
  refine lv_if_eq (tgt := 12) hx hb dX7_token_5 (by decide) (fun _ => ?_) (fun c9 => absurd c9 (by decide))
  refine lv_iconst (v := 0) hx hb dX7_token_12 (by decide) ?_
  have hPc := hP.sub (ws' := [(h0, .inr (7, MO rf 0 0 0 0 0))]) [0] rfl
  have hDc := hD.sub (ws' := [(h0, .inr (7, MO rf 0 0 0 0 0))]) [0] (by decide) rfl
  have hKc := hK.sub (tys' := []) [] rfl
  have hFc := va_free (wc := [(h0, .inr (7, MO rf 0 0 0 0 0))]) hD hS hA [0] rfl
  refine va_calli (va_runV (As := [.int 0]) (rest := []) ⟨hx, hb, hml, hown, hB⟩ (c_fails0 l dC dI h0 rf s.heap.size) (cwV 1 hB (bgV bg222 bg223 bg224 bg225 bg226) rfl rfl rfl (by decide +kernel) ⟨Nat.le_of_ble_eq_true rfl, Nat.le_of_ble_eq_true rfl⟩) ⟨fun a U g mk q => by obtain ⟨q0, q1, qP, qK, qD⟩ := q; exact ⟨q0, q1, qP, va_K.moved (u := U) (U := U.calling g mk a) (Vm.Alike.refl U.vm) qK, qD⟩, va_recv hKc hPc (ci := 7) (q0 := 0) rfl rfl, fun U hU hW => ⟨rfl, by rw [hU], by rw [hU]; exact hPc, va_K.moved hW.alike hKc, hDc.weaken (fun _ _ _ _ => trivial)⟩⟩ rfl rfl hl.1 rfl (lv_room (Nat.le_of_ble_eq_true rfl)) dX7_token_13 ⟨Nat.le_of_ble_eq_true rfl, Nat.le_of_ble_eq_true rfl⟩) hS (fun q _ h => hFc q h) hFc (fun r9 u9 t9 H1 locs ht9 hvm hw hB1 hz1 hk1 hS => ?_)
  try dsimp only at hB1 hw
  obtain ⟨hP1, hK1, hD1⟩ := hB1
  rw [ht9] at hP1
  have hK1 := va_K.moved hvm.symm hK1
  obtain rfl := hw
  obtain ⟨hP, hD⟩ := va_join (wr := [(rf 2, .inl (cA, 60, .inl (fun _ => 0)))]) (w1 := [(h0, .inr (7, MO rf 0 0 0 0 0))]) hP hD [0] [1] rfl rfl (by decide) (by decide) hk1 hFc hP1 hD1
  have hK := (hK.sub (tys' := [(cA, .int)]) [0] rfl).app hK1
  generalize H1 = H at hP hS ⊢
  have hP : va_P (dC, dI) vwCl [(rf 2, .inl (cA, 60, .inl (fun _ => 0))), (h0, .inr (7, MO rf 0 0 0 0 0))] H := hP
  have hD : va_D A [(rf 2, .inl (cA, 60, .inl (fun _ => 0))), (h0, .inr (7, MO rf 0 0 0 0 0))] := hD
  have hK : va_K (dC, dI) vwCl [(cA, .int)] s := hK
  refine lv_if_ne (tgt := 35) hx hb dX7_token_16 (by decide) (fun c9 => absurd c9 (by decide)) (fun _ => ?_)
  refine lv_iload_n hx hb dX7_token_19 rfl (lv_at hl 1 rfl) ?_
  have hPc := hP.sub (ws' := []) [] rfl
  have hDc := hD.sub (ws' := []) [] (by decide) rfl
  have hKc := hK.sub (tys' := []) [] rfl
  have hFc := va_free (wc := []) hD hS hA [] rfl
  refine va_calli (va_runS (As := [.int t]) (rest := []) ⟨hx, hb, hml, hown, hB⟩ (c_misToken_n l dC dI t H.size ht) (cwS 1 hB (bgS bg227 bg228 bg225 bg229) rfl rfl rfl (by decide +kernel) ⟨Nat.le_of_ble_eq_true rfl, Nat.le_of_ble_eq_true rfl⟩) ⟨fun a U g mk q => by obtain ⟨q0, q1, qP, qK, qD⟩ := q; exact ⟨q0, q1, qP, va_K.moved (u := U) (U := U.calling g mk a) (Vm.Alike.refl U.vm) qK, qD⟩, fun U hU hW => ⟨rfl, by rw [hU], by rw [hU]; exact hPc, va_K.moved hW.alike hKc, hDc.weaken (fun _ _ _ _ => trivial)⟩⟩ rfl rfl hl.1 rfl (lv_room (Nat.le_of_ble_eq_true rfl)) dX7_token_20 ⟨Nat.le_of_ble_eq_true rfl, Nat.le_of_ble_eq_true rfl⟩) hS (fun q _ h => hFc q h) hFc (fun r9 u9 t9 H1 locs ht9 hvm hw hB1 hz1 hk1 hS => ?_)
  try dsimp only at hB1 hw
  obtain ⟨hP1, hK1, hD1⟩ := hB1
  rw [ht9] at hP1
  have hK1 := va_K.moved hvm.symm hK1
  obtain rfl := hw
  obtain ⟨hP, hD⟩ := va_join (wr := [(rf 2, .inl (cA, 60, .inl (fun _ => 0))), (h0, .inr (7, MO rf 0 0 0 0 0))]) (w1 := []) hP hD [] [0, 1] rfl rfl (by decide) (by decide) hk1 hFc hP1 hD1
  have hK := (hK.sub (tys' := [(cA, .int)]) [0] rfl).app hK1
  generalize H1 = H at hP hS ⊢
  have hP : va_P (dC, dI) vwCl [(rf 2, .inl (cA, 60, .inl (fun _ => 0))), (h0, .inr (7, MO rf 0 0 0 0 0))] H := hP
  have hD : va_D A [(rf 2, .inl (cA, 60, .inl (fun _ => 0))), (h0, .inr (7, MO rf 0 0 0 0 0))] := hD
  have hK : va_K (dC, dI) vwCl [(cA, .int)] s := hK
  refine lv_if_eq (tgt := 35) hx hb dX7_token_23 (by decide) (fun _ => ?_) (fun c9 => absurd c9 (by decide))
  refine lv_iconst (v := 0) hx hb dX7_token_35 (by decide) ?_
  have hP9 := hP.sub (ws' := [(h0, .inr (7, MO rf 0 0 0 0 0))]) [1] rfl
  have hD9 := hD.sub (ws' := [(h0, .inr (7, MO rf 0 0 0 0 0))]) [1] (by decide) rfl
  have hK9 := hK.sub (tys' := []) [] rfl
  refine W.widen (k := 0) (n := 0) (by decide) (by decide) ?_
  exact W.zret (v := 0) hx hb hr (by decide) (fun t9 ht9 hW => ⟨⟨0, (MO rf 0 0 0 0 0), rfl, ⟨rfl, rfl⟩, by rw [ht9]; exact hP9, va_K.moved hW.alike hK9, hD9⟩, hS.F ht9⟩) hS.2.2 dX7_token_36
set_option maxHeartbeats 4000000 in
set_option maxRecDepth 100000 in
theorem c_minfer (l : Launch) (dC : Nat → ClassId) (dI : Nat → Nat → Nat) (h0 : Nat) (rf : Nat → Nat) (sz : Nat) : Met l yX7_infer (Cond.code yX7_infer cX7_infer 2 (some .int) :: BG) ({ frames := 1, cells := 0, slots := 0, locals := 21 }) (va_Pc [.ref h0] (fun U => U.heap.size = sz ∧ va_P (dC, dI) vwCl [(h0, .inr (7, MO rf 0 0 0 0 0))] U.heap ∧ va_K (dC, dI) vwCl [] U ∧ va_D (fun _ => True) [(h0, .inr (7, MO rf 0 0 0 0 0))])) (va_Qi (fun (r9 : Int32) (fs : List Value) => r9 = 0 ∧ fs[0]? = some (.int 1)) (fun (fs : List Value) (t9 : State) => va_P (dC, dI) vwCl [(h0, .inr (7, fs))] t9.heap ∧ va_K (dC, dI) vwCl [] t9 ∧ va_D (va_A [(h0, .inr (7, MO rf 0 0 0 0 0))] sz) [(h0, .inr (7, fs))]) (va_A [(h0, .inr (7, MO rf 0 0 0 0 0))] sz)) 0 0 (va_A [(h0, .inr (7, MO rf 0 0 0 0 0))] sz) := by
  refine Met.ofW (cc := cX7_infer) (maxL := 2) (ret := (some .int)) (by decide) rfl ?_
  intro p e s m args below meth c s₁ B hml hv
  obtain ⟨rfl, hsz, hP, hK, hD0⟩ := hv
  have hx := B.exec
  have hb := B.bytes
  have hr := B.returns
  have hts := atoms_spec (ws := Cond.code yX7_infer cX7_infer 2 (some .int) :: BG) B.pre
  have hB : ∀ w ∈ BG, w.before _ s = true := fun w h => hts w (List.mem_cons_of_mem _ h)
  have hown : s.vm.findClass RX7 = some m.cls := findClass_of_methodNamed B.named
  have hlocks := B.notSynchronized
  subst hsz
  have hD := hD0.self (sz := s.heap.size)
  generalize hAe : va_A [(h0, .inr (7, MO rf 0 0 0 0 0))] s.heap.size = A at hD ⊢
  have hA : ∀ q : Nat, s.heap.size ≤ q → A q := fun q h => by rw [← hAe]; exact Or.inr h
  have hS : va_S A s.heap s.heap [] := va_S.rf
  have hP : va_P (dC, dI) vwCl [(h0, .inr (7, MO rf 0 0 0 0 0))] s.heap := hP
  have hl := lv_entry ([.ref h0]) (n := 2) (Nat.le_of_ble_eq_true rfl)
  rw [lg_entry_eq]
  generalize (lg_sl ([.ref h0]) ++ List.replicate (2 - (lg_sl ([.ref h0])).length) Slot.unset).toArray = ls at hl ⊢
  have hl : lv_has ls 2 [(0, .ref h0)] := hl
  refine lv_aload_n hx hb dX7_infer_0 rfl (lv_at hl 0 rfl) ?_
  refine lv_aload_n hx hb dX7_infer_1 rfl (lv_at hl 0 rfl) ?_
  refine va_get (D := (dC, dI)) (ci := 7) (v := .int 0) (C := RX7) (T := TX7) (N := 55) hx hb hB inB7 hown hK hP 0 rfl rfl 1 (by decide) (hB _ bg221) (fun _ h9 => h9) rfl dX7_infer_2 ?_
  refine lv_iconst (v := 1) hx hb dX7_infer_5 (by decide) ?_
  refine lv_icmp_eq (tgt := 13) hx hb dX7_infer_6 (by decide) (fun c9 => absurd c9 (by decide)) (fun _ => ?_)
  refine lv_iconst (v := 1) hx hb dX7_infer_9 (by decide) ?_
  refine lv_goto (tgt := 14) hx hb dX7_infer_10 (by decide) ?_
  have hPc := hP.sub (ws' := [(h0, .inr (7, MO rf 0 0 0 0 0))]) [0] rfl
  have hDc := hD.sub (ws' := [(h0, .inr (7, MO rf 0 0 0 0 0))]) [0] (by decide) rfl
  have hKc := hK.sub (tys' := []) [] rfl
  have hFc := va_free (wc := [(h0, .inr (7, MO rf 0 0 0 0 0))]) hD hS hA [0] rfl
  refine va_calli (va_runV (As := [.int 1]) (rest := []) ⟨hx, hb, hml, hown, hB⟩ (c_fails1 l dC dI h0 rf s.heap.size) (cwV 1 hB (bgV bg222 bg223 bg224 bg225 bg226) rfl rfl rfl (by decide +kernel) ⟨Nat.le_of_ble_eq_true rfl, Nat.le_of_ble_eq_true rfl⟩) ⟨fun a U g mk q => by obtain ⟨q0, q1, qP, qK, qD⟩ := q; exact ⟨q0, q1, qP, va_K.moved (u := U) (U := U.calling g mk a) (Vm.Alike.refl U.vm) qK, qD⟩, va_recv hKc hPc (ci := 7) (q0 := 0) rfl rfl, fun U hU hW => ⟨rfl, by rw [hU], by rw [hU]; exact hPc, va_K.moved hW.alike hKc, hDc.weaken (fun _ _ _ _ => trivial)⟩⟩ rfl rfl hl.1 rfl (lv_room (Nat.le_of_ble_eq_true rfl)) dX7_infer_14 ⟨Nat.le_of_ble_eq_true rfl, Nat.le_of_ble_eq_true rfl⟩) hS (fun q _ h => hFc q h) hFc (fun r9 u9 t9 H1 locs ht9 hvm hw hB1 hz1 hk1 hS => ?_)
  try dsimp only at hB1 hw
  obtain ⟨hP1, hK1, hD1⟩ := hB1
  rw [ht9] at hP1
  have hK1 := va_K.moved hvm.symm hK1
  obtain rfl := hw
  obtain ⟨hP, hD⟩ := va_join (wr := []) (w1 := [(h0, .inr (7, MO rf 1 0 0 0 0))]) hP hD [0] [] rfl rfl (by decide) (by decide) hk1 hFc hP1 hD1
  have hK := (hK.sub (tys' := []) [] rfl).app hK1
  generalize H1 = H at hP hS ⊢
  have hP : va_P (dC, dI) vwCl [(h0, .inr (7, MO rf 1 0 0 0 0))] H := hP
  have hD : va_D A [(h0, .inr (7, MO rf 1 0 0 0 0))] := hD
  have hK : va_K (dC, dI) vwCl [] s := hK
  refine lv_if_eq (tgt := 22) hx hb dX7_infer_17 (by decide) (fun c9 => absurd c9 (by decide)) (fun _ => ?_)
  refine lv_iconst (v := 0) hx hb dX7_infer_20 (by decide) ?_
  have hP9 := hP.sub (ws' := [(h0, .inr (7, MO rf 1 0 0 0 0))]) [0] rfl
  have hD9 := hD.sub (ws' := [(h0, .inr (7, MO rf 1 0 0 0 0))]) [0] (by decide) rfl
  have hK9 := hK.sub (tys' := []) [] rfl
  refine W.widen (k := 0) (n := 0) (by decide) (by decide) ?_
  exact W.iret (v := 0) hx hb hr (fun t9 ht9 hW => ⟨⟨0, (MO rf 1 0 0 0 0), rfl, ⟨rfl, rfl⟩, by rw [ht9]; exact hP9, va_K.moved hW.alike hK9, hD9⟩, hS.F ht9⟩) hS.2.2 dX7_infer_21
set_option maxHeartbeats 4000000 in
set_option maxRecDepth 100000 in
theorem c_mrun (l : Launch) (dC : Nat → ClassId) (dI : Nat → Nat → Nat) (h0 : Nat) (rf : Nat → Nat) (t : Int32) (sz : Nat) : Met l yX7_run (Cond.code yX7_run cX7_run 2 (some .int) :: BG) ({ frames := 1, cells := 0, slots := 0, locals := 21 }) (va_Pc [.ref h0, .int t] (fun U => U.heap.size = sz ∧ va_P (dC, dI) vwCl [(h0, .inr (7, MO rf 0 0 0 0 0))] U.heap ∧ va_K (dC, dI) vwCl [] U ∧ va_D (fun _ => True) [(h0, .inr (7, MO rf 0 0 0 0 0))])) (va_Qi (fun (r9 : Int32) (fs : List Value) => r9 = 0 ∧ fs[0]? = some (.int 1)) (fun (fs : List Value) (t9 : State) => va_P (dC, dI) vwCl [(h0, .inr (7, fs))] t9.heap ∧ va_K (dC, dI) vwCl [] t9 ∧ va_D (va_A [(h0, .inr (7, MO rf 0 0 0 0 0))] sz) [(h0, .inr (7, fs))]) (va_A [(h0, .inr (7, MO rf 0 0 0 0 0))] sz)) 0 0 (va_A [(h0, .inr (7, MO rf 0 0 0 0 0))] sz) := by
  refine Met.ofW (cc := cX7_run) (maxL := 2) (ret := (some .int)) (by decide) rfl ?_
  intro p e s m args below meth c s₁ B hml hv
  obtain ⟨rfl, hsz, hP, hK, hD0⟩ := hv
  have hx := B.exec
  have hb := B.bytes
  have hr := B.returns
  have hts := atoms_spec (ws := Cond.code yX7_run cX7_run 2 (some .int) :: BG) B.pre
  have hB : ∀ w ∈ BG, w.before _ s = true := fun w h => hts w (List.mem_cons_of_mem _ h)
  have hown : s.vm.findClass RX7 = some m.cls := findClass_of_methodNamed B.named
  have hlocks := B.notSynchronized
  subst hsz
  have hD := hD0.self (sz := s.heap.size)
  generalize hAe : va_A [(h0, .inr (7, MO rf 0 0 0 0 0))] s.heap.size = A at hD ⊢
  have hA : ∀ q : Nat, s.heap.size ≤ q → A q := fun q h => by rw [← hAe]; exact Or.inr h
  have hS : va_S A s.heap s.heap [] := va_S.rf
  have hP : va_P (dC, dI) vwCl [(h0, .inr (7, MO rf 0 0 0 0 0))] s.heap := hP
  have hl := lv_entry ([.ref h0, .int t]) (n := 2) (Nat.le_of_ble_eq_true rfl)
  rw [lg_entry_eq]
  generalize (lg_sl ([.ref h0, .int t]) ++ List.replicate (2 - (lg_sl ([.ref h0, .int t])).length) Slot.unset).toArray = ls at hl ⊢
  have hl : lv_has ls 2 [(0, .ref h0), (1, .int t)] := hl
  refine lv_aload_n hx hb dX7_run_0 rfl (lv_at hl 0 rfl) ?_
  refine lv_aload_n hx hb dX7_run_1 rfl (lv_at hl 0 rfl) ?_
  refine va_get (D := (dC, dI)) (ci := 7) (v := .int 0) (C := RX7) (T := TX7) (N := 55) hx hb hB inB7 hown hK hP 0 rfl rfl 1 (by decide) (hB _ bg221) (fun _ h9 => h9) rfl dX7_run_2 ?_
  refine lv_iconst (v := 2) hx hb dX7_run_5 (by decide) ?_
  refine lv_icmp_eq (tgt := 13) hx hb dX7_run_6 (by decide) (fun c9 => absurd c9 (by decide)) (fun _ => ?_)
  refine lv_iconst (v := 1) hx hb dX7_run_9 (by decide) ?_
  refine lv_goto (tgt := 14) hx hb dX7_run_10 (by decide) ?_
  have hPc := hP.sub (ws' := [(h0, .inr (7, MO rf 0 0 0 0 0))]) [0] rfl
  have hDc := hD.sub (ws' := [(h0, .inr (7, MO rf 0 0 0 0 0))]) [0] (by decide) rfl
  have hKc := hK.sub (tys' := []) [] rfl
  have hFc := va_free (wc := [(h0, .inr (7, MO rf 0 0 0 0 0))]) hD hS hA [0] rfl
  refine va_calli (va_runV (As := [.int 1]) (rest := []) ⟨hx, hb, hml, hown, hB⟩ (c_fails1 l dC dI h0 rf s.heap.size) (cwV 1 hB (bgV bg222 bg223 bg224 bg225 bg226) rfl rfl rfl (by decide +kernel) ⟨Nat.le_of_ble_eq_true rfl, Nat.le_of_ble_eq_true rfl⟩) ⟨fun a U g mk q => by obtain ⟨q0, q1, qP, qK, qD⟩ := q; exact ⟨q0, q1, qP, va_K.moved (u := U) (U := U.calling g mk a) (Vm.Alike.refl U.vm) qK, qD⟩, va_recv hKc hPc (ci := 7) (q0 := 0) rfl rfl, fun U hU hW => ⟨rfl, by rw [hU], by rw [hU]; exact hPc, va_K.moved hW.alike hKc, hDc.weaken (fun _ _ _ _ => trivial)⟩⟩ rfl rfl hl.1 rfl (lv_room (Nat.le_of_ble_eq_true rfl)) dX7_run_14 ⟨Nat.le_of_ble_eq_true rfl, Nat.le_of_ble_eq_true rfl⟩) hS (fun q _ h => hFc q h) hFc (fun r9 u9 t9 H1 locs ht9 hvm hw hB1 hz1 hk1 hS => ?_)
  try dsimp only at hB1 hw
  obtain ⟨hP1, hK1, hD1⟩ := hB1
  rw [ht9] at hP1
  have hK1 := va_K.moved hvm.symm hK1
  obtain rfl := hw
  obtain ⟨hP, hD⟩ := va_join (wr := []) (w1 := [(h0, .inr (7, MO rf 1 0 0 0 0))]) hP hD [0] [] rfl rfl (by decide) (by decide) hk1 hFc hP1 hD1
  have hK := (hK.sub (tys' := []) [] rfl).app hK1
  generalize H1 = H at hP hS ⊢
  have hP : va_P (dC, dI) vwCl [(h0, .inr (7, MO rf 1 0 0 0 0))] H := hP
  have hD : va_D A [(h0, .inr (7, MO rf 1 0 0 0 0))] := hD
  have hK : va_K (dC, dI) vwCl [] s := hK
  refine lv_if_eq (tgt := 22) hx hb dX7_run_17 (by decide) (fun c9 => absurd c9 (by decide)) (fun _ => ?_)
  refine lv_iconst (v := 0) hx hb dX7_run_20 (by decide) ?_
  have hP9 := hP.sub (ws' := [(h0, .inr (7, MO rf 1 0 0 0 0))]) [0] rfl
  have hD9 := hD.sub (ws' := [(h0, .inr (7, MO rf 1 0 0 0 0))]) [0] (by decide) rfl
  have hK9 := hK.sub (tys' := []) [] rfl
  refine W.widen (k := 0) (n := 0) (by decide) (by decide) ?_
  exact W.iret (v := 0) hx hb hr (fun t9 ht9 hW => ⟨⟨0, (MO rf 1 0 0 0 0), rfl, ⟨rfl, rfl⟩, by rw [ht9]; exact hP9, va_K.moved hW.alike hK9, hD9⟩, hS.F ht9⟩) hS.2.2 dX7_run_21
set_option maxHeartbeats 4000000 in
set_option maxRecDepth 100000 in
theorem c_mtypeAt (l : Launch) (dC : Nat → ClassId) (dI : Nat → Nat → Nat) (h0 : Nat) (rf : Nat → Nat) (t : Int32) (sz : Nat) : Met l yX7_typeAt (Cond.code yX7_typeAt cX7_typeAt 2 (some .int) :: BG) ({ frames := 1, cells := 0, slots := 0, locals := 21 }) (va_Pc [.ref h0, .int t] (fun U => U.heap.size = sz ∧ va_P (dC, dI) vwCl [(h0, .inr (7, MO rf 0 0 0 0 0))] U.heap ∧ va_K (dC, dI) vwCl [] U ∧ va_D (fun _ => True) [(h0, .inr (7, MO rf 0 0 0 0 0))])) (va_Qi (fun (r9 : Int32) (fs : List Value) => r9 = 0 ∧ fs[0]? = some (.int 1)) (fun (fs : List Value) (t9 : State) => va_P (dC, dI) vwCl [(h0, .inr (7, fs))] t9.heap ∧ va_K (dC, dI) vwCl [] t9 ∧ va_D (va_A [(h0, .inr (7, MO rf 0 0 0 0 0))] sz) [(h0, .inr (7, fs))]) (va_A [(h0, .inr (7, MO rf 0 0 0 0 0))] sz)) 0 0 (va_A [(h0, .inr (7, MO rf 0 0 0 0 0))] sz) := by
  refine Met.ofW (cc := cX7_typeAt) (maxL := 2) (ret := (some .int)) (by decide) rfl ?_
  intro p e s m args below meth c s₁ B hml hv
  obtain ⟨rfl, hsz, hP, hK, hD0⟩ := hv
  have hx := B.exec
  have hb := B.bytes
  have hr := B.returns
  have hts := atoms_spec (ws := Cond.code yX7_typeAt cX7_typeAt 2 (some .int) :: BG) B.pre
  have hB : ∀ w ∈ BG, w.before _ s = true := fun w h => hts w (List.mem_cons_of_mem _ h)
  have hown : s.vm.findClass RX7 = some m.cls := findClass_of_methodNamed B.named
  have hlocks := B.notSynchronized
  subst hsz
  have hD := hD0.self (sz := s.heap.size)
  generalize hAe : va_A [(h0, .inr (7, MO rf 0 0 0 0 0))] s.heap.size = A at hD ⊢
  have hA : ∀ q : Nat, s.heap.size ≤ q → A q := fun q h => by rw [← hAe]; exact Or.inr h
  have hS : va_S A s.heap s.heap [] := va_S.rf
  have hP : va_P (dC, dI) vwCl [(h0, .inr (7, MO rf 0 0 0 0 0))] s.heap := hP
  have hl := lv_entry ([.ref h0, .int t]) (n := 2) (Nat.le_of_ble_eq_true rfl)
  rw [lg_entry_eq]
  generalize (lg_sl ([.ref h0, .int t]) ++ List.replicate (2 - (lg_sl ([.ref h0, .int t])).length) Slot.unset).toArray = ls at hl ⊢
  have hl : lv_has ls 2 [(0, .ref h0), (1, .int t)] := hl
  refine lv_aload_n hx hb dX7_typeAt_0 rfl (lv_at hl 0 rfl) ?_
  refine lv_aload_n hx hb dX7_typeAt_1 rfl (lv_at hl 0 rfl) ?_
  refine va_get (D := (dC, dI)) (ci := 7) (v := .int 0) (C := RX7) (T := TX7) (N := 55) hx hb hB inB7 hown hK hP 0 rfl rfl 1 (by decide) (hB _ bg221) (fun _ h9 => h9) rfl dX7_typeAt_2 ?_
  refine lv_iconst (v := 2) hx hb dX7_typeAt_5 (by decide) ?_
  refine lv_icmp_ne (tgt := 21) hx hb dX7_typeAt_6 (by decide) (fun _ => ?_) (fun c9 => absurd c9 (by decide))
  refine lv_iconst (v := 1) hx hb dX7_typeAt_21 (by decide) ?_
  refine lv_goto (tgt := 26) hx hb dX7_typeAt_22 (by decide) ?_
  have hPc := hP.sub (ws' := [(h0, .inr (7, MO rf 0 0 0 0 0))]) [0] rfl
  have hDc := hD.sub (ws' := [(h0, .inr (7, MO rf 0 0 0 0 0))]) [0] (by decide) rfl
  have hKc := hK.sub (tys' := []) [] rfl
  have hFc := va_free (wc := [(h0, .inr (7, MO rf 0 0 0 0 0))]) hD hS hA [0] rfl
  refine va_calli (va_runV (As := [.int 1]) (rest := []) ⟨hx, hb, hml, hown, hB⟩ (c_fails1 l dC dI h0 rf s.heap.size) (cwV 1 hB (bgV bg222 bg223 bg224 bg225 bg226) rfl rfl rfl (by decide +kernel) ⟨Nat.le_of_ble_eq_true rfl, Nat.le_of_ble_eq_true rfl⟩) ⟨fun a U g mk q => by obtain ⟨q0, q1, qP, qK, qD⟩ := q; exact ⟨q0, q1, qP, va_K.moved (u := U) (U := U.calling g mk a) (Vm.Alike.refl U.vm) qK, qD⟩, va_recv hKc hPc (ci := 7) (q0 := 0) rfl rfl, fun U hU hW => ⟨rfl, by rw [hU], by rw [hU]; exact hPc, va_K.moved hW.alike hKc, hDc.weaken (fun _ _ _ _ => trivial)⟩⟩ rfl rfl hl.1 rfl (lv_room (Nat.le_of_ble_eq_true rfl)) dX7_typeAt_26 ⟨Nat.le_of_ble_eq_true rfl, Nat.le_of_ble_eq_true rfl⟩) hS (fun q _ h => hFc q h) hFc (fun r9 u9 t9 H1 locs ht9 hvm hw hB1 hz1 hk1 hS => ?_)
  try dsimp only at hB1 hw
  obtain ⟨hP1, hK1, hD1⟩ := hB1
  rw [ht9] at hP1
  have hK1 := va_K.moved hvm.symm hK1
  obtain rfl := hw
  obtain ⟨hP, hD⟩ := va_join (wr := []) (w1 := [(h0, .inr (7, MO rf 1 0 0 0 0))]) hP hD [0] [] rfl rfl (by decide) (by decide) hk1 hFc hP1 hD1
  have hK := (hK.sub (tys' := []) [] rfl).app hK1
  generalize H1 = H at hP hS ⊢
  have hP : va_P (dC, dI) vwCl [(h0, .inr (7, MO rf 1 0 0 0 0))] H := hP
  have hD : va_D A [(h0, .inr (7, MO rf 1 0 0 0 0))] := hD
  have hK : va_K (dC, dI) vwCl [] s := hK
  refine lv_if_eq (tgt := 36) hx hb dX7_typeAt_29 (by decide) (fun c9 => absurd c9 (by decide)) (fun _ => ?_)
  refine lv_iconst (v := 0) hx hb dX7_typeAt_32 (by decide) ?_
  refine lv_goto (tgt := 42) hx hb dX7_typeAt_33 (by decide) ?_
  have hP9 := hP.sub (ws' := [(h0, .inr (7, MO rf 1 0 0 0 0))]) [0] rfl
  have hD9 := hD.sub (ws' := [(h0, .inr (7, MO rf 1 0 0 0 0))]) [0] (by decide) rfl
  have hK9 := hK.sub (tys' := []) [] rfl
  refine W.widen (k := 0) (n := 0) (by decide) (by decide) ?_
  exact W.iret (v := 0) hx hb hr (fun t9 ht9 hW => ⟨⟨0, (MO rf 1 0 0 0 0), rfl, ⟨rfl, rfl⟩, by rw [ht9]; exact hP9, va_K.moved hW.alike hK9, hD9⟩, hS.F ht9⟩) hS.2.2 dX7_typeAt_42
set_option maxHeartbeats 4000000 in
set_option maxRecDepth 100000 in
theorem c_moutAt (l : Launch) (dC : Nat → ClassId) (dI : Nat → Nat → Nat) (h0 : Nat) (rf : Nat → Nat) (t : Int32) (sz : Nat) : Met l yX7_outAt (Cond.code yX7_outAt cX7_outAt 2 (some .int) :: BG) ({ frames := 1, cells := 0, slots := 0, locals := 21 }) (va_Pc [.ref h0, .int t] (fun U => U.heap.size = sz ∧ va_P (dC, dI) vwCl [(h0, .inr (7, MO rf 0 0 0 0 0))] U.heap ∧ va_K (dC, dI) vwCl [] U ∧ va_D (fun _ => True) [(h0, .inr (7, MO rf 0 0 0 0 0))])) (va_Qi (fun (r9 : Int32) (fs : List Value) => r9 = 0 ∧ fs[0]? = some (.int 1)) (fun (fs : List Value) (t9 : State) => va_P (dC, dI) vwCl [(h0, .inr (7, fs))] t9.heap ∧ va_K (dC, dI) vwCl [] t9 ∧ va_D (va_A [(h0, .inr (7, MO rf 0 0 0 0 0))] sz) [(h0, .inr (7, fs))]) (va_A [(h0, .inr (7, MO rf 0 0 0 0 0))] sz)) 0 0 (va_A [(h0, .inr (7, MO rf 0 0 0 0 0))] sz) := by
  refine Met.ofW (cc := cX7_outAt) (maxL := 2) (ret := (some .int)) (by decide) rfl ?_
  intro p e s m args below meth c s₁ B hml hv
  obtain ⟨rfl, hsz, hP, hK, hD0⟩ := hv
  have hx := B.exec
  have hb := B.bytes
  have hr := B.returns
  have hts := atoms_spec (ws := Cond.code yX7_outAt cX7_outAt 2 (some .int) :: BG) B.pre
  have hB : ∀ w ∈ BG, w.before _ s = true := fun w h => hts w (List.mem_cons_of_mem _ h)
  have hown : s.vm.findClass RX7 = some m.cls := findClass_of_methodNamed B.named
  have hlocks := B.notSynchronized
  subst hsz
  have hD := hD0.self (sz := s.heap.size)
  generalize hAe : va_A [(h0, .inr (7, MO rf 0 0 0 0 0))] s.heap.size = A at hD ⊢
  have hA : ∀ q : Nat, s.heap.size ≤ q → A q := fun q h => by rw [← hAe]; exact Or.inr h
  have hS : va_S A s.heap s.heap [] := va_S.rf
  have hP : va_P (dC, dI) vwCl [(h0, .inr (7, MO rf 0 0 0 0 0))] s.heap := hP
  have hl := lv_entry ([.ref h0, .int t]) (n := 2) (Nat.le_of_ble_eq_true rfl)
  rw [lg_entry_eq]
  generalize (lg_sl ([.ref h0, .int t]) ++ List.replicate (2 - (lg_sl ([.ref h0, .int t])).length) Slot.unset).toArray = ls at hl ⊢
  have hl : lv_has ls 2 [(0, .ref h0), (1, .int t)] := hl
  refine lv_aload_n hx hb dX7_outAt_0 rfl (lv_at hl 0 rfl) ?_
  refine lv_iload_n hx hb dX7_outAt_1 rfl (lv_at hl 1 rfl) ?_
  refine lv_if_lt (tgt := 13) hx hb dX7_outAt_2 (by decide) (fun c_1 => ?_) (fun c_1 => ?_)
  · refine lv_iconst (v := 1) hx hb dX7_outAt_13 (by decide) ?_
    refine lv_goto (tgt := 18) hx hb dX7_outAt_14 (by decide) ?_
    have hPc := hP.sub (ws' := [(h0, .inr (7, MO rf 0 0 0 0 0))]) [0] rfl
    have hDc := hD.sub (ws' := [(h0, .inr (7, MO rf 0 0 0 0 0))]) [0] (by decide) rfl
    have hKc := hK.sub (tys' := []) [] rfl
    have hFc := va_free (wc := [(h0, .inr (7, MO rf 0 0 0 0 0))]) hD hS hA [0] rfl
    refine va_calli (va_runV (As := [.int 1]) (rest := []) ⟨hx, hb, hml, hown, hB⟩ (c_fails1 l dC dI h0 rf s.heap.size) (cwV 1 hB (bgV bg222 bg223 bg224 bg225 bg226) rfl rfl rfl (by decide +kernel) ⟨Nat.le_of_ble_eq_true rfl, Nat.le_of_ble_eq_true rfl⟩) ⟨fun a U g mk q => by obtain ⟨q0, q1, qP, qK, qD⟩ := q; exact ⟨q0, q1, qP, va_K.moved (u := U) (U := U.calling g mk a) (Vm.Alike.refl U.vm) qK, qD⟩, va_recv hKc hPc (ci := 7) (q0 := 0) rfl rfl, fun U hU hW => ⟨rfl, by rw [hU], by rw [hU]; exact hPc, va_K.moved hW.alike hKc, hDc.weaken (fun _ _ _ _ => trivial)⟩⟩ rfl rfl hl.1 rfl (lv_room (Nat.le_of_ble_eq_true rfl)) dX7_outAt_18 ⟨Nat.le_of_ble_eq_true rfl, Nat.le_of_ble_eq_true rfl⟩) hS (fun q _ h => hFc q h) hFc (fun r9 u9 t9 H1 locs ht9 hvm hw hB1 hz1 hk1 hS => ?_)
    try dsimp only at hB1 hw
    obtain ⟨hP1, hK1, hD1⟩ := hB1
    rw [ht9] at hP1
    have hK1 := va_K.moved hvm.symm hK1
    obtain rfl := hw
    obtain ⟨hP, hD⟩ := va_join (wr := []) (w1 := [(h0, .inr (7, MO rf 1 0 0 0 0))]) hP hD [0] [] rfl rfl (by decide) (by decide) hk1 hFc hP1 hD1
    have hK := (hK.sub (tys' := []) [] rfl).app hK1
    generalize H1 = H at hP hS ⊢
    have hP : va_P (dC, dI) vwCl [(h0, .inr (7, MO rf 1 0 0 0 0))] H := hP
    have hD : va_D A [(h0, .inr (7, MO rf 1 0 0 0 0))] := hD
    have hK : va_K (dC, dI) vwCl [] s := hK
    refine lv_if_eq (tgt := 28) hx hb dX7_outAt_21 (by decide) (fun c9 => absurd c9 (by decide)) (fun _ => ?_)
    refine lv_iconst (v := 0) hx hb dX7_outAt_24 (by decide) ?_
    refine lv_goto (tgt := 34) hx hb dX7_outAt_25 (by decide) ?_
    have hP9 := hP.sub (ws' := [(h0, .inr (7, MO rf 1 0 0 0 0))]) [0] rfl
    have hD9 := hD.sub (ws' := [(h0, .inr (7, MO rf 1 0 0 0 0))]) [0] (by decide) rfl
    have hK9 := hK.sub (tys' := []) [] rfl
    refine W.widen (k := 0) (n := 0) (by decide) (by decide) ?_
    exact W.iret (v := 0) hx hb hr (fun t9 ht9 hW => ⟨⟨0, (MO rf 1 0 0 0 0), rfl, ⟨rfl, rfl⟩, by rw [ht9]; exact hP9, va_K.moved hW.alike hK9, hD9⟩, hS.F ht9⟩) hS.2.2 dX7_outAt_34
  · refine lv_iload_n hx hb dX7_outAt_5 rfl (lv_at hl 1 rfl) ?_
    refine lv_aload_n hx hb dX7_outAt_6 rfl (lv_at hl 0 rfl) ?_
    refine va_get (D := (dC, dI)) (ci := 7) (v := .int (-1)) (C := RX7) (T := TX7) (N := 55) hx hb hB inB7 hown hK hP 0 rfl rfl 54 (by decide) (hB _ bg219) (fun _ h9 => h9) rfl dX7_outAt_7 ?_
    refine lv_icmp_lt (tgt := 17) hx hb dX7_outAt_10 (by decide) (fun c_2 => ?_) (fun c_2 => ?_)
    · exfalso
      simp only [Int32.lt_iff_toInt_lt, i32_0, i32_m1] at c_1 c_2
      omega
    · refine lv_iconst (v := 1) hx hb dX7_outAt_13 (by decide) ?_
      refine lv_goto (tgt := 18) hx hb dX7_outAt_14 (by decide) ?_
      have hPc := hP.sub (ws' := [(h0, .inr (7, MO rf 0 0 0 0 0))]) [0] rfl
      have hDc := hD.sub (ws' := [(h0, .inr (7, MO rf 0 0 0 0 0))]) [0] (by decide) rfl
      have hKc := hK.sub (tys' := []) [] rfl
      have hFc := va_free (wc := [(h0, .inr (7, MO rf 0 0 0 0 0))]) hD hS hA [0] rfl
      refine va_calli (va_runV (As := [.int 1]) (rest := []) ⟨hx, hb, hml, hown, hB⟩ (c_fails1 l dC dI h0 rf s.heap.size) (cwV 1 hB (bgV bg222 bg223 bg224 bg225 bg226) rfl rfl rfl (by decide +kernel) ⟨Nat.le_of_ble_eq_true rfl, Nat.le_of_ble_eq_true rfl⟩) ⟨fun a U g mk q => by obtain ⟨q0, q1, qP, qK, qD⟩ := q; exact ⟨q0, q1, qP, va_K.moved (u := U) (U := U.calling g mk a) (Vm.Alike.refl U.vm) qK, qD⟩, va_recv hKc hPc (ci := 7) (q0 := 0) rfl rfl, fun U hU hW => ⟨rfl, by rw [hU], by rw [hU]; exact hPc, va_K.moved hW.alike hKc, hDc.weaken (fun _ _ _ _ => trivial)⟩⟩ rfl rfl hl.1 rfl (lv_room (Nat.le_of_ble_eq_true rfl)) dX7_outAt_18 ⟨Nat.le_of_ble_eq_true rfl, Nat.le_of_ble_eq_true rfl⟩) hS (fun q _ h => hFc q h) hFc (fun r9 u9 t9 H1 locs ht9 hvm hw hB1 hz1 hk1 hS => ?_)
      try dsimp only at hB1 hw
      obtain ⟨hP1, hK1, hD1⟩ := hB1
      rw [ht9] at hP1
      have hK1 := va_K.moved hvm.symm hK1
      obtain rfl := hw
      obtain ⟨hP, hD⟩ := va_join (wr := []) (w1 := [(h0, .inr (7, MO rf 1 0 0 0 0))]) hP hD [0] [] rfl rfl (by decide) (by decide) hk1 hFc hP1 hD1
      have hK := (hK.sub (tys' := []) [] rfl).app hK1
      generalize H1 = H at hP hS ⊢
      have hP : va_P (dC, dI) vwCl [(h0, .inr (7, MO rf 1 0 0 0 0))] H := hP
      have hD : va_D A [(h0, .inr (7, MO rf 1 0 0 0 0))] := hD
      have hK : va_K (dC, dI) vwCl [] s := hK
      refine lv_if_eq (tgt := 28) hx hb dX7_outAt_21 (by decide) (fun c9 => absurd c9 (by decide)) (fun _ => ?_)
      refine lv_iconst (v := 0) hx hb dX7_outAt_24 (by decide) ?_
      refine lv_goto (tgt := 34) hx hb dX7_outAt_25 (by decide) ?_
      have hP9 := hP.sub (ws' := [(h0, .inr (7, MO rf 1 0 0 0 0))]) [0] rfl
      have hD9 := hD.sub (ws' := [(h0, .inr (7, MO rf 1 0 0 0 0))]) [0] (by decide) rfl
      have hK9 := hK.sub (tys' := []) [] rfl
      refine W.widen (k := 0) (n := 0) (by decide) (by decide) ?_
      exact W.iret (v := 0) hx hb hr (fun t9 ht9 hW => ⟨⟨0, (MO rf 1 0 0 0 0), rfl, ⟨rfl, rfl⟩, by rw [ht9]; exact hP9, va_K.moved hW.alike hK9, hD9⟩, hS.F ht9⟩) hS.2.2 dX7_outAt_34
set_option maxHeartbeats 4000000 in
set_option maxRecDepth 100000 in
theorem c_mphase (l : Launch) (dC : Nat → ClassId) (dI : Nat → Nat → Nat) (h0 : Nat) (rf : Nat → Nat) (sz : Nat) : Met l yX7_phase (Cond.code yX7_phase cX7_phase 1 (some .int) :: BG) ({ frames := 0, cells := 0, slots := 0, locals := 0 }) (va_Pc [.ref h0] (fun U => U.heap.size = sz ∧ va_P (dC, dI) vwCl [(h0, .inr (7, MO rf 0 0 0 0 0))] U.heap ∧ va_K (dC, dI) vwCl [] U ∧ va_D (fun _ => True) [(h0, .inr (7, MO rf 0 0 0 0 0))])) (va_Qi (fun (r9 : Int32) (fs : List Value) => r9 = 0 ∧ fs[0]? = some (.int 0)) (fun (fs : List Value) (t9 : State) => va_P (dC, dI) vwCl [(h0, .inr (7, fs))] t9.heap ∧ va_K (dC, dI) vwCl [] t9 ∧ va_D (va_A [(h0, .inr (7, MO rf 0 0 0 0 0))] sz) [(h0, .inr (7, fs))]) (va_A [(h0, .inr (7, MO rf 0 0 0 0 0))] sz)) 0 0 (va_A [(h0, .inr (7, MO rf 0 0 0 0 0))] sz) := by
  refine Met.ofW (cc := cX7_phase) (maxL := 1) (ret := (some .int)) (by decide) rfl ?_
  intro p e s m args below meth c s₁ B hml hv
  obtain ⟨rfl, hsz, hP, hK, hD0⟩ := hv
  have hx := B.exec
  have hb := B.bytes
  have hr := B.returns
  have hts := atoms_spec (ws := Cond.code yX7_phase cX7_phase 1 (some .int) :: BG) B.pre
  have hB : ∀ w ∈ BG, w.before _ s = true := fun w h => hts w (List.mem_cons_of_mem _ h)
  have hown : s.vm.findClass RX7 = some m.cls := findClass_of_methodNamed B.named
  have hlocks := B.notSynchronized
  subst hsz
  have hD := hD0.self (sz := s.heap.size)
  generalize hAe : va_A [(h0, .inr (7, MO rf 0 0 0 0 0))] s.heap.size = A at hD ⊢
  have hA : ∀ q : Nat, s.heap.size ≤ q → A q := fun q h => by rw [← hAe]; exact Or.inr h
  have hS : va_S A s.heap s.heap [] := va_S.rf
  have hP : va_P (dC, dI) vwCl [(h0, .inr (7, MO rf 0 0 0 0 0))] s.heap := hP
  have hl := lv_entry ([.ref h0]) (n := 1) (Nat.le_of_ble_eq_true rfl)
  rw [lg_entry_eq]
  generalize (lg_sl ([.ref h0]) ++ List.replicate (1 - (lg_sl ([.ref h0])).length) Slot.unset).toArray = ls at hl ⊢
  have hl : lv_has ls 1 [(0, .ref h0)] := hl
  refine lv_aload_n hx hb dX7_phase_0 rfl (lv_at hl 0 rfl) ?_
  refine lv_iconst (v := 0) hx hb dX7_phase_1 (by decide) ?_
  refine va_put (D := (dC, dI)) (ci := 7) (v := .int 0) (ty := .int) (C := RX7) (T := TX7) (N := 55) hx hb hB inB7 tyX7 tyX7_ok nmX7 hown hK hP hD hS 0 rfl rfl 0 (by decide) (hB _ bg220) (fun _ h9 => h9) rfl (by decide +kernel) rfl rfl (Nat.le_of_ble_eq_true rfl) dX7_phase_2 (fun H locs hP hD hS => ?_)
  have hP : va_P (dC, dI) vwCl [(h0, .inr (7, MO rf 0 0 0 0 0))] H := hP
  have hD : va_D A [(h0, .inr (7, MO rf 0 0 0 0 0))] := hD
  refine lv_aload_n hx hb dX7_phase_5 rfl (lv_at hl 0 rfl) ?_
  refine va_get (D := (dC, dI)) (ci := 7) (v := .int 0) (C := RX7) (T := TX7) (N := 55) hx hb hB inB7 hown hK hP 0 rfl rfl 1 (by decide) (hB _ bg221) (fun _ h9 => h9) rfl dX7_phase_6 ?_
  have hP9 := hP.sub (ws' := [(h0, .inr (7, MO rf 0 0 0 0 0))]) [0] rfl
  have hD9 := hD.sub (ws' := [(h0, .inr (7, MO rf 0 0 0 0 0))]) [0] (by decide) rfl
  have hK9 := hK.sub (tys' := []) [] rfl
  refine W.widen (k := 0) (n := 0) (by decide) (by decide) ?_
  exact W.iret (v := 0) hx hb hr (fun t9 ht9 hW => ⟨⟨0, (MO rf 0 0 0 0 0), rfl, ⟨rfl, rfl⟩, by rw [ht9]; exact hP9, va_K.moved hW.alike hK9, hD9⟩, hS.F ht9⟩) hS.2.2 dX7_phase_9
set_option maxHeartbeats 4000000 in
set_option maxRecDepth 100000 in
theorem c_mtypeSize (l : Launch) (dC : Nat → ClassId) (dI : Nat → Nat → Nat) (h0 : Nat) (rf : Nat → Nat) (sz : Nat) : Met l yX7_typeSize (Cond.code yX7_typeSize cX7_typeSize 1 (some .int) :: BG) ({ frames := 0, cells := 0, slots := 0, locals := 0 }) (va_Pc [.ref h0] (fun U => U.heap.size = sz ∧ va_P (dC, dI) vwCl [(h0, .inr (7, MO rf 0 0 0 0 0))] U.heap ∧ va_K (dC, dI) vwCl [] U ∧ va_D (fun _ => True) [(h0, .inr (7, MO rf 0 0 0 0 0))])) (va_Qi (fun (r9 : Int32) (fs : List Value) => r9 = (-1) ∧ fs[0]? = some (.int 0)) (fun (fs : List Value) (t9 : State) => va_P (dC, dI) vwCl [(h0, .inr (7, fs))] t9.heap ∧ va_K (dC, dI) vwCl [] t9 ∧ va_D (va_A [(h0, .inr (7, MO rf 0 0 0 0 0))] sz) [(h0, .inr (7, fs))]) (va_A [(h0, .inr (7, MO rf 0 0 0 0 0))] sz)) 0 0 (va_A [(h0, .inr (7, MO rf 0 0 0 0 0))] sz) := by
  refine Met.ofW (cc := cX7_typeSize) (maxL := 1) (ret := (some .int)) (by decide) rfl ?_
  intro p e s m args below meth c s₁ B hml hv
  obtain ⟨rfl, hsz, hP, hK, hD0⟩ := hv
  have hx := B.exec
  have hb := B.bytes
  have hr := B.returns
  have hts := atoms_spec (ws := Cond.code yX7_typeSize cX7_typeSize 1 (some .int) :: BG) B.pre
  have hB : ∀ w ∈ BG, w.before _ s = true := fun w h => hts w (List.mem_cons_of_mem _ h)
  have hown : s.vm.findClass RX7 = some m.cls := findClass_of_methodNamed B.named
  have hlocks := B.notSynchronized
  subst hsz
  have hD := hD0.self (sz := s.heap.size)
  generalize hAe : va_A [(h0, .inr (7, MO rf 0 0 0 0 0))] s.heap.size = A at hD ⊢
  have hA : ∀ q : Nat, s.heap.size ≤ q → A q := fun q h => by rw [← hAe]; exact Or.inr h
  have hS : va_S A s.heap s.heap [] := va_S.rf
  have hP : va_P (dC, dI) vwCl [(h0, .inr (7, MO rf 0 0 0 0 0))] s.heap := hP
  have hl := lv_entry ([.ref h0]) (n := 1) (Nat.le_of_ble_eq_true rfl)
  rw [lg_entry_eq]
  generalize (lg_sl ([.ref h0]) ++ List.replicate (1 - (lg_sl ([.ref h0])).length) Slot.unset).toArray = ls at hl ⊢
  have hl : lv_has ls 1 [(0, .ref h0)] := hl
  refine lv_aload_n hx hb dX7_typeSize_0 rfl (lv_at hl 0 rfl) ?_
  refine lv_iconst (v := 0) hx hb dX7_typeSize_1 (by decide) ?_
  refine va_put (D := (dC, dI)) (ci := 7) (v := .int 0) (ty := .int) (C := RX7) (T := TX7) (N := 55) hx hb hB inB7 tyX7 tyX7_ok nmX7 hown hK hP hD hS 0 rfl rfl 0 (by decide) (hB _ bg220) (fun _ h9 => h9) rfl (by decide +kernel) rfl rfl (Nat.le_of_ble_eq_true rfl) dX7_typeSize_2 (fun H locs hP hD hS => ?_)
  have hP : va_P (dC, dI) vwCl [(h0, .inr (7, MO rf 0 0 0 0 0))] H := hP
  have hD : va_D A [(h0, .inr (7, MO rf 0 0 0 0 0))] := hD
  refine lv_aload_n hx hb dX7_typeSize_5 rfl (lv_at hl 0 rfl) ?_
  refine va_get (D := (dC, dI)) (ci := 7) (v := .int 0) (C := RX7) (T := TX7) (N := 55) hx hb hB inB7 hown hK hP 0 rfl rfl 1 (by decide) (hB _ bg221) (fun _ h9 => h9) rfl dX7_typeSize_6 ?_
  refine lv_iconst (v := 2) hx hb dX7_typeSize_9 (by decide) ?_
  refine lv_icmp_ne (tgt := 20) hx hb dX7_typeSize_10 (by decide) (fun _ => ?_) (fun c9 => absurd c9 (by decide))
  refine lv_iconst (v := -1) hx hb dX7_typeSize_20 (by decide) ?_
  have hP9 := hP.sub (ws' := [(h0, .inr (7, MO rf 0 0 0 0 0))]) [0] rfl
  have hD9 := hD.sub (ws' := [(h0, .inr (7, MO rf 0 0 0 0 0))]) [0] (by decide) rfl
  have hK9 := hK.sub (tys' := []) [] rfl
  refine W.widen (k := 0) (n := 0) (by decide) (by decide) ?_
  exact W.iret (v := (-1)) hx hb hr (fun t9 ht9 hW => ⟨⟨(-1), (MO rf 0 0 0 0 0), rfl, ⟨rfl, rfl⟩, by rw [ht9]; exact hP9, va_K.moved hW.alike hK9, hD9⟩, hS.F ht9⟩) hS.2.2 dX7_typeSize_21
set_option maxHeartbeats 4000000 in
set_option maxRecDepth 100000 in
theorem c_moutSize (l : Launch) (dC : Nat → ClassId) (dI : Nat → Nat → Nat) (h0 : Nat) (rf : Nat → Nat) (sz : Nat) : Met l yX7_outSize (Cond.code yX7_outSize cX7_outSize 1 (some .int) :: BG) ({ frames := 0, cells := 0, slots := 0, locals := 0 }) (va_Pc [.ref h0] (fun U => U.heap.size = sz ∧ va_P (dC, dI) vwCl [(h0, .inr (7, MO rf 0 0 0 0 0))] U.heap ∧ va_K (dC, dI) vwCl [] U ∧ va_D (fun _ => True) [(h0, .inr (7, MO rf 0 0 0 0 0))])) (va_Qi (fun (r9 : Int32) (fs : List Value) => r9 = (-1) ∧ fs[0]? = some (.int 0)) (fun (fs : List Value) (t9 : State) => va_P (dC, dI) vwCl [(h0, .inr (7, fs))] t9.heap ∧ va_K (dC, dI) vwCl [] t9 ∧ va_D (va_A [(h0, .inr (7, MO rf 0 0 0 0 0))] sz) [(h0, .inr (7, fs))]) (va_A [(h0, .inr (7, MO rf 0 0 0 0 0))] sz)) 0 0 (va_A [(h0, .inr (7, MO rf 0 0 0 0 0))] sz) := by
  refine Met.ofW (cc := cX7_outSize) (maxL := 1) (ret := (some .int)) (by decide) rfl ?_
  intro p e s m args below meth c s₁ B hml hv
  obtain ⟨rfl, hsz, hP, hK, hD0⟩ := hv
  have hx := B.exec
  have hb := B.bytes
  have hr := B.returns
  have hts := atoms_spec (ws := Cond.code yX7_outSize cX7_outSize 1 (some .int) :: BG) B.pre
  have hB : ∀ w ∈ BG, w.before _ s = true := fun w h => hts w (List.mem_cons_of_mem _ h)
  have hown : s.vm.findClass RX7 = some m.cls := findClass_of_methodNamed B.named
  have hlocks := B.notSynchronized
  subst hsz
  have hD := hD0.self (sz := s.heap.size)
  generalize hAe : va_A [(h0, .inr (7, MO rf 0 0 0 0 0))] s.heap.size = A at hD ⊢
  have hA : ∀ q : Nat, s.heap.size ≤ q → A q := fun q h => by rw [← hAe]; exact Or.inr h
  have hS : va_S A s.heap s.heap [] := va_S.rf
  have hP : va_P (dC, dI) vwCl [(h0, .inr (7, MO rf 0 0 0 0 0))] s.heap := hP
  have hl := lv_entry ([.ref h0]) (n := 1) (Nat.le_of_ble_eq_true rfl)
  rw [lg_entry_eq]
  generalize (lg_sl ([.ref h0]) ++ List.replicate (1 - (lg_sl ([.ref h0])).length) Slot.unset).toArray = ls at hl ⊢
  have hl : lv_has ls 1 [(0, .ref h0)] := hl
  refine lv_aload_n hx hb dX7_outSize_0 rfl (lv_at hl 0 rfl) ?_
  refine lv_iconst (v := 0) hx hb dX7_outSize_1 (by decide) ?_
  refine va_put (D := (dC, dI)) (ci := 7) (v := .int 0) (ty := .int) (C := RX7) (T := TX7) (N := 55) hx hb hB inB7 tyX7 tyX7_ok nmX7 hown hK hP hD hS 0 rfl rfl 0 (by decide) (hB _ bg220) (fun _ h9 => h9) rfl (by decide +kernel) rfl rfl (Nat.le_of_ble_eq_true rfl) dX7_outSize_2 (fun H locs hP hD hS => ?_)
  have hP : va_P (dC, dI) vwCl [(h0, .inr (7, MO rf 0 0 0 0 0))] H := hP
  have hD : va_D A [(h0, .inr (7, MO rf 0 0 0 0 0))] := hD
  refine lv_aload_n hx hb dX7_outSize_5 rfl (lv_at hl 0 rfl) ?_
  refine va_get (D := (dC, dI)) (ci := 7) (v := .int (-1)) (C := RX7) (T := TX7) (N := 55) hx hb hB inB7 hown hK hP 0 rfl rfl 54 (by decide) (hB _ bg219) (fun _ h9 => h9) rfl dX7_outSize_6 ?_
  have hP9 := hP.sub (ws' := [(h0, .inr (7, MO rf 0 0 0 0 0))]) [0] rfl
  have hD9 := hD.sub (ws' := [(h0, .inr (7, MO rf 0 0 0 0 0))]) [0] (by decide) rfl
  have hK9 := hK.sub (tys' := []) [] rfl
  refine W.widen (k := 0) (n := 0) (by decide) (by decide) ?_
  exact W.iret (v := (-1)) hx hb hr (fun t9 ht9 hW => ⟨⟨(-1), (MO rf 0 0 0 0 0), rfl, ⟨rfl, rfl⟩, by rw [ht9]; exact hP9, va_K.moved hW.alike hK9, hD9⟩, hS.F ht9⟩) hS.2.2 dX7_outSize_9
set_option maxHeartbeats 4000000 in
set_option maxRecDepth 100000 in
theorem c_mused0 (l : Launch) (dC : Nat → ClassId) (dI : Nat → Nat → Nat) (h0 : Nat) (rf : Nat → Nat) (sz : Nat) : Met l yX7_used (Cond.code yX7_used cX7_used 2 (some .int) :: BG) ({ frames := 0, cells := 0, slots := 0, locals := 0 }) (va_Pc [.ref h0, .int 0] (fun U => U.heap.size = sz ∧ va_P (dC, dI) vwCl [(h0, .inr (7, MO rf 0 0 0 0 0))] U.heap ∧ va_K (dC, dI) vwCl [] U ∧ va_D (fun _ => True) [(h0, .inr (7, MO rf 0 0 0 0 0))])) (va_Qi (fun (r9 : Int32) (fs : List Value) => r9 = 0 ∧ fs[0]? = some (.int 0)) (fun (fs : List Value) (t9 : State) => va_P (dC, dI) vwCl [(h0, .inr (7, fs))] t9.heap ∧ va_K (dC, dI) vwCl [] t9 ∧ va_D (va_A [(h0, .inr (7, MO rf 0 0 0 0 0))] sz) [(h0, .inr (7, fs))]) (va_A [(h0, .inr (7, MO rf 0 0 0 0 0))] sz)) 0 0 (va_A [(h0, .inr (7, MO rf 0 0 0 0 0))] sz) := by
  refine Met.ofW (cc := cX7_used) (maxL := 2) (ret := (some .int)) (by decide) rfl ?_
  intro p e s m args below meth c s₁ B hml hv
  obtain ⟨rfl, hsz, hP, hK, hD0⟩ := hv
  have hx := B.exec
  have hb := B.bytes
  have hr := B.returns
  have hts := atoms_spec (ws := Cond.code yX7_used cX7_used 2 (some .int) :: BG) B.pre
  have hB : ∀ w ∈ BG, w.before _ s = true := fun w h => hts w (List.mem_cons_of_mem _ h)
  have hown : s.vm.findClass RX7 = some m.cls := findClass_of_methodNamed B.named
  have hlocks := B.notSynchronized
  subst hsz
  have hD := hD0.self (sz := s.heap.size)
  generalize hAe : va_A [(h0, .inr (7, MO rf 0 0 0 0 0))] s.heap.size = A at hD ⊢
  have hA : ∀ q : Nat, s.heap.size ≤ q → A q := fun q h => by rw [← hAe]; exact Or.inr h
  have hS : va_S A s.heap s.heap [] := va_S.rf
  have hP : va_P (dC, dI) vwCl [(h0, .inr (7, MO rf 0 0 0 0 0))] s.heap := hP
  have hl := lv_entry ([.ref h0, .int 0]) (n := 2) (Nat.le_of_ble_eq_true rfl)
  rw [lg_entry_eq]
  generalize (lg_sl ([.ref h0, .int 0]) ++ List.replicate (2 - (lg_sl ([.ref h0, .int 0])).length) Slot.unset).toArray = ls at hl ⊢
  have hl : lv_has ls 2 [(0, .ref h0), (1, .int 0)] := hl
  refine lv_aload_n hx hb dX7_used_0 rfl (lv_at hl 0 rfl) ?_
  refine lv_iconst (v := 0) hx hb dX7_used_1 (by decide) ?_
  refine va_put (D := (dC, dI)) (ci := 7) (v := .int 0) (ty := .int) (C := RX7) (T := TX7) (N := 55) hx hb hB inB7 tyX7 tyX7_ok nmX7 hown hK hP hD hS 0 rfl rfl 0 (by decide) (hB _ bg220) (fun _ h9 => h9) rfl (by decide +kernel) rfl rfl (Nat.le_of_ble_eq_true rfl) dX7_used_2 (fun H locs hP hD hS => ?_)
  have hP : va_P (dC, dI) vwCl [(h0, .inr (7, MO rf 0 0 0 0 0))] H := hP
  have hD : va_D A [(h0, .inr (7, MO rf 0 0 0 0 0))] := hD
  refine lv_iload_n hx hb dX7_used_5 rfl (lv_at hl 1 rfl) ?_
  refine lv_if_ne (tgt := 16) hx hb dX7_used_6 (by decide) (fun c9 => absurd c9 (by decide)) (fun _ => ?_)
  refine lv_aload_n hx hb dX7_used_9 rfl (lv_at hl 0 rfl) ?_
  refine va_get (D := (dC, dI)) (ci := 7) (v := .int 0) (C := RX7) (T := TX7) (N := 55) hx hb hB inB7 hown hK hP 0 rfl rfl 49 (by decide) (hB _ bg231) (fun _ h9 => h9) rfl dX7_used_10 ?_
  refine lv_goto (tgt := 41) hx hb dX7_used_13 (by decide) ?_
  have hP9 := hP.sub (ws' := [(h0, .inr (7, MO rf 0 0 0 0 0))]) [0] rfl
  have hD9 := hD.sub (ws' := [(h0, .inr (7, MO rf 0 0 0 0 0))]) [0] (by decide) rfl
  have hK9 := hK.sub (tys' := []) [] rfl
  refine W.widen (k := 0) (n := 0) (by decide) (by decide) ?_
  exact W.iret (v := 0) hx hb hr (fun t9 ht9 hW => ⟨⟨0, (MO rf 0 0 0 0 0), rfl, ⟨rfl, rfl⟩, by rw [ht9]; exact hP9, va_K.moved hW.alike hK9, hD9⟩, hS.F ht9⟩) hS.2.2 dX7_used_41
set_option maxHeartbeats 4000000 in
set_option maxRecDepth 100000 in
theorem c_mused1 (l : Launch) (dC : Nat → ClassId) (dI : Nat → Nat → Nat) (h0 : Nat) (rf : Nat → Nat) (sz : Nat) : Met l yX7_used (Cond.code yX7_used cX7_used 2 (some .int) :: BG) ({ frames := 0, cells := 0, slots := 0, locals := 0 }) (va_Pc [.ref h0, .int 1] (fun U => U.heap.size = sz ∧ va_P (dC, dI) vwCl [(h0, .inr (7, MO rf 0 0 0 0 0))] U.heap ∧ va_K (dC, dI) vwCl [] U ∧ va_D (fun _ => True) [(h0, .inr (7, MO rf 0 0 0 0 0))])) (va_Qi (fun (r9 : Int32) (fs : List Value) => r9 = 0 ∧ fs[0]? = some (.int 0)) (fun (fs : List Value) (t9 : State) => va_P (dC, dI) vwCl [(h0, .inr (7, fs))] t9.heap ∧ va_K (dC, dI) vwCl [] t9 ∧ va_D (va_A [(h0, .inr (7, MO rf 0 0 0 0 0))] sz) [(h0, .inr (7, fs))]) (va_A [(h0, .inr (7, MO rf 0 0 0 0 0))] sz)) 0 0 (va_A [(h0, .inr (7, MO rf 0 0 0 0 0))] sz) := by
  refine Met.ofW (cc := cX7_used) (maxL := 2) (ret := (some .int)) (by decide) rfl ?_
  intro p e s m args below meth c s₁ B hml hv
  obtain ⟨rfl, hsz, hP, hK, hD0⟩ := hv
  have hx := B.exec
  have hb := B.bytes
  have hr := B.returns
  have hts := atoms_spec (ws := Cond.code yX7_used cX7_used 2 (some .int) :: BG) B.pre
  have hB : ∀ w ∈ BG, w.before _ s = true := fun w h => hts w (List.mem_cons_of_mem _ h)
  have hown : s.vm.findClass RX7 = some m.cls := findClass_of_methodNamed B.named
  have hlocks := B.notSynchronized
  subst hsz
  have hD := hD0.self (sz := s.heap.size)
  generalize hAe : va_A [(h0, .inr (7, MO rf 0 0 0 0 0))] s.heap.size = A at hD ⊢
  have hA : ∀ q : Nat, s.heap.size ≤ q → A q := fun q h => by rw [← hAe]; exact Or.inr h
  have hS : va_S A s.heap s.heap [] := va_S.rf
  have hP : va_P (dC, dI) vwCl [(h0, .inr (7, MO rf 0 0 0 0 0))] s.heap := hP
  have hl := lv_entry ([.ref h0, .int 1]) (n := 2) (Nat.le_of_ble_eq_true rfl)
  rw [lg_entry_eq]
  generalize (lg_sl ([.ref h0, .int 1]) ++ List.replicate (2 - (lg_sl ([.ref h0, .int 1])).length) Slot.unset).toArray = ls at hl ⊢
  have hl : lv_has ls 2 [(0, .ref h0), (1, .int 1)] := hl
  refine lv_aload_n hx hb dX7_used_0 rfl (lv_at hl 0 rfl) ?_
  refine lv_iconst (v := 0) hx hb dX7_used_1 (by decide) ?_
  refine va_put (D := (dC, dI)) (ci := 7) (v := .int 0) (ty := .int) (C := RX7) (T := TX7) (N := 55) hx hb hB inB7 tyX7 tyX7_ok nmX7 hown hK hP hD hS 0 rfl rfl 0 (by decide) (hB _ bg220) (fun _ h9 => h9) rfl (by decide +kernel) rfl rfl (Nat.le_of_ble_eq_true rfl) dX7_used_2 (fun H locs hP hD hS => ?_)
  have hP : va_P (dC, dI) vwCl [(h0, .inr (7, MO rf 0 0 0 0 0))] H := hP
  have hD : va_D A [(h0, .inr (7, MO rf 0 0 0 0 0))] := hD
  refine lv_iload_n hx hb dX7_used_5 rfl (lv_at hl 1 rfl) ?_
  refine lv_if_ne (tgt := 16) hx hb dX7_used_6 (by decide) (fun _ => ?_) (fun c9 => absurd c9 (by decide))
  refine lv_iload_n hx hb dX7_used_16 rfl (lv_at hl 1 rfl) ?_
  refine lv_iconst (v := 1) hx hb dX7_used_17 (by decide) ?_
  refine lv_icmp_ne (tgt := 28) hx hb dX7_used_18 (by decide) (fun c9 => absurd c9 (by decide)) (fun _ => ?_)
  refine lv_aload_n hx hb dX7_used_21 rfl (lv_at hl 0 rfl) ?_
  refine va_get (D := (dC, dI)) (ci := 7) (v := .int 0) (C := RX7) (T := TX7) (N := 55) hx hb hB inB7 hown hK hP 0 rfl rfl 43 (by decide) (hB _ bg232) (fun _ h9 => h9) rfl dX7_used_22 ?_
  refine lv_goto (tgt := 41) hx hb dX7_used_25 (by decide) ?_
  have hP9 := hP.sub (ws' := [(h0, .inr (7, MO rf 0 0 0 0 0))]) [0] rfl
  have hD9 := hD.sub (ws' := [(h0, .inr (7, MO rf 0 0 0 0 0))]) [0] (by decide) rfl
  have hK9 := hK.sub (tys' := []) [] rfl
  refine W.widen (k := 0) (n := 0) (by decide) (by decide) ?_
  exact W.iret (v := 0) hx hb hr (fun t9 ht9 hW => ⟨⟨0, (MO rf 0 0 0 0 0), rfl, ⟨rfl, rfl⟩, by rw [ht9]; exact hP9, va_K.moved hW.alike hK9, hD9⟩, hS.F ht9⟩) hS.2.2 dX7_used_41
set_option maxHeartbeats 4000000 in
set_option maxRecDepth 100000 in
theorem c_mused2 (l : Launch) (dC : Nat → ClassId) (dI : Nat → Nat → Nat) (h0 : Nat) (rf : Nat → Nat) (sz : Nat) : Met l yX7_used (Cond.code yX7_used cX7_used 2 (some .int) :: BG) ({ frames := 0, cells := 0, slots := 0, locals := 0 }) (va_Pc [.ref h0, .int 2] (fun U => U.heap.size = sz ∧ va_P (dC, dI) vwCl [(h0, .inr (7, MO rf 0 0 0 0 0))] U.heap ∧ va_K (dC, dI) vwCl [] U ∧ va_D (fun _ => True) [(h0, .inr (7, MO rf 0 0 0 0 0))])) (va_Qi (fun (r9 : Int32) (fs : List Value) => r9 = 0 ∧ fs[0]? = some (.int 0)) (fun (fs : List Value) (t9 : State) => va_P (dC, dI) vwCl [(h0, .inr (7, fs))] t9.heap ∧ va_K (dC, dI) vwCl [] t9 ∧ va_D (va_A [(h0, .inr (7, MO rf 0 0 0 0 0))] sz) [(h0, .inr (7, fs))]) (va_A [(h0, .inr (7, MO rf 0 0 0 0 0))] sz)) 0 0 (va_A [(h0, .inr (7, MO rf 0 0 0 0 0))] sz) := by
  refine Met.ofW (cc := cX7_used) (maxL := 2) (ret := (some .int)) (by decide) rfl ?_
  intro p e s m args below meth c s₁ B hml hv
  obtain ⟨rfl, hsz, hP, hK, hD0⟩ := hv
  have hx := B.exec
  have hb := B.bytes
  have hr := B.returns
  have hts := atoms_spec (ws := Cond.code yX7_used cX7_used 2 (some .int) :: BG) B.pre
  have hB : ∀ w ∈ BG, w.before _ s = true := fun w h => hts w (List.mem_cons_of_mem _ h)
  have hown : s.vm.findClass RX7 = some m.cls := findClass_of_methodNamed B.named
  have hlocks := B.notSynchronized
  subst hsz
  have hD := hD0.self (sz := s.heap.size)
  generalize hAe : va_A [(h0, .inr (7, MO rf 0 0 0 0 0))] s.heap.size = A at hD ⊢
  have hA : ∀ q : Nat, s.heap.size ≤ q → A q := fun q h => by rw [← hAe]; exact Or.inr h
  have hS : va_S A s.heap s.heap [] := va_S.rf
  have hP : va_P (dC, dI) vwCl [(h0, .inr (7, MO rf 0 0 0 0 0))] s.heap := hP
  have hl := lv_entry ([.ref h0, .int 2]) (n := 2) (Nat.le_of_ble_eq_true rfl)
  rw [lg_entry_eq]
  generalize (lg_sl ([.ref h0, .int 2]) ++ List.replicate (2 - (lg_sl ([.ref h0, .int 2])).length) Slot.unset).toArray = ls at hl ⊢
  have hl : lv_has ls 2 [(0, .ref h0), (1, .int 2)] := hl
  refine lv_aload_n hx hb dX7_used_0 rfl (lv_at hl 0 rfl) ?_
  refine lv_iconst (v := 0) hx hb dX7_used_1 (by decide) ?_
  refine va_put (D := (dC, dI)) (ci := 7) (v := .int 0) (ty := .int) (C := RX7) (T := TX7) (N := 55) hx hb hB inB7 tyX7 tyX7_ok nmX7 hown hK hP hD hS 0 rfl rfl 0 (by decide) (hB _ bg220) (fun _ h9 => h9) rfl (by decide +kernel) rfl rfl (Nat.le_of_ble_eq_true rfl) dX7_used_2 (fun H locs hP hD hS => ?_)
  have hP : va_P (dC, dI) vwCl [(h0, .inr (7, MO rf 0 0 0 0 0))] H := hP
  have hD : va_D A [(h0, .inr (7, MO rf 0 0 0 0 0))] := hD
  refine lv_iload_n hx hb dX7_used_5 rfl (lv_at hl 1 rfl) ?_
  refine lv_if_ne (tgt := 16) hx hb dX7_used_6 (by decide) (fun _ => ?_) (fun c9 => absurd c9 (by decide))
  refine lv_iload_n hx hb dX7_used_16 rfl (lv_at hl 1 rfl) ?_
  refine lv_iconst (v := 1) hx hb dX7_used_17 (by decide) ?_
  refine lv_icmp_ne (tgt := 28) hx hb dX7_used_18 (by decide) (fun _ => ?_) (fun c9 => absurd c9 (by decide))
  refine lv_iload_n hx hb dX7_used_28 rfl (lv_at hl 1 rfl) ?_
  refine lv_iconst (v := 2) hx hb dX7_used_29 (by decide) ?_
  refine lv_icmp_ne (tgt := 40) hx hb dX7_used_30 (by decide) (fun c9 => absurd c9 (by decide)) (fun _ => ?_)
  refine lv_aload_n hx hb dX7_used_33 rfl (lv_at hl 0 rfl) ?_
  refine va_get (D := (dC, dI)) (ci := 7) (v := .int 0) (C := RX7) (T := TX7) (N := 55) hx hb hB inB7 hown hK hP 0 rfl rfl 50 (by decide) (hB _ bg233) (fun _ h9 => h9) rfl dX7_used_34 ?_
  refine lv_goto (tgt := 41) hx hb dX7_used_37 (by decide) ?_
  have hP9 := hP.sub (ws' := [(h0, .inr (7, MO rf 0 0 0 0 0))]) [0] rfl
  have hD9 := hD.sub (ws' := [(h0, .inr (7, MO rf 0 0 0 0 0))]) [0] (by decide) rfl
  have hK9 := hK.sub (tys' := []) [] rfl
  refine W.widen (k := 0) (n := 0) (by decide) (by decide) ?_
  exact W.iret (v := 0) hx hb hr (fun t9 ht9 hW => ⟨⟨0, (MO rf 0 0 0 0 0), rfl, ⟨rfl, rfl⟩, by rw [ht9]; exact hP9, va_K.moved hW.alike hK9, hD9⟩, hS.F ht9⟩) hS.2.2 dX7_used_41
set_option maxHeartbeats 4000000 in
set_option maxRecDepth 100000 in
theorem c_musedN (l : Launch) (dC : Nat → ClassId) (dI : Nat → Nat → Nat) (h0 : Nat) (rf : Nat → Nat) (t : Int32) (sz : Nat) (ho : t.toInt < 0 ∨ 2 < t.toInt) : Met l yX7_used (Cond.code yX7_used cX7_used 2 (some .int) :: BG) ({ frames := 0, cells := 0, slots := 0, locals := 0 }) (va_Pc [.ref h0, .int t] (fun U => U.heap.size = sz ∧ va_P (dC, dI) vwCl [(h0, .inr (7, MO rf 0 0 0 0 0))] U.heap ∧ va_K (dC, dI) vwCl [] U ∧ va_D (fun _ => True) [(h0, .inr (7, MO rf 0 0 0 0 0))])) (va_Qi (fun (r9 : Int32) (fs : List Value) => r9 = (-1) ∧ fs[0]? = some (.int 0)) (fun (fs : List Value) (t9 : State) => va_P (dC, dI) vwCl [(h0, .inr (7, fs))] t9.heap ∧ va_K (dC, dI) vwCl [] t9 ∧ va_D (va_A [(h0, .inr (7, MO rf 0 0 0 0 0))] sz) [(h0, .inr (7, fs))]) (va_A [(h0, .inr (7, MO rf 0 0 0 0 0))] sz)) 0 0 (va_A [(h0, .inr (7, MO rf 0 0 0 0 0))] sz) := by
  refine Met.ofW (cc := cX7_used) (maxL := 2) (ret := (some .int)) (by decide) rfl ?_
  intro p e s m args below meth c s₁ B hml hv
  obtain ⟨rfl, hsz, hP, hK, hD0⟩ := hv
  have hx := B.exec
  have hb := B.bytes
  have hr := B.returns
  have hts := atoms_spec (ws := Cond.code yX7_used cX7_used 2 (some .int) :: BG) B.pre
  have hB : ∀ w ∈ BG, w.before _ s = true := fun w h => hts w (List.mem_cons_of_mem _ h)
  have hown : s.vm.findClass RX7 = some m.cls := findClass_of_methodNamed B.named
  have hlocks := B.notSynchronized
  subst hsz
  have hD := hD0.self (sz := s.heap.size)
  generalize hAe : va_A [(h0, .inr (7, MO rf 0 0 0 0 0))] s.heap.size = A at hD ⊢
  have hA : ∀ q : Nat, s.heap.size ≤ q → A q := fun q h => by rw [← hAe]; exact Or.inr h
  have hS : va_S A s.heap s.heap [] := va_S.rf
  have hP : va_P (dC, dI) vwCl [(h0, .inr (7, MO rf 0 0 0 0 0))] s.heap := hP
  have hl := lv_entry ([.ref h0, .int t]) (n := 2) (Nat.le_of_ble_eq_true rfl)
  rw [lg_entry_eq]
  generalize (lg_sl ([.ref h0, .int t]) ++ List.replicate (2 - (lg_sl ([.ref h0, .int t])).length) Slot.unset).toArray = ls at hl ⊢
  have hl : lv_has ls 2 [(0, .ref h0), (1, .int t)] := hl
  refine lv_aload_n hx hb dX7_used_0 rfl (lv_at hl 0 rfl) ?_
  refine lv_iconst (v := 0) hx hb dX7_used_1 (by decide) ?_
  refine va_put (D := (dC, dI)) (ci := 7) (v := .int 0) (ty := .int) (C := RX7) (T := TX7) (N := 55) hx hb hB inB7 tyX7 tyX7_ok nmX7 hown hK hP hD hS 0 rfl rfl 0 (by decide) (hB _ bg220) (fun _ h9 => h9) rfl (by decide +kernel) rfl rfl (Nat.le_of_ble_eq_true rfl) dX7_used_2 (fun H locs hP hD hS => ?_)
  have hP : va_P (dC, dI) vwCl [(h0, .inr (7, MO rf 0 0 0 0 0))] H := hP
  have hD : va_D A [(h0, .inr (7, MO rf 0 0 0 0 0))] := hD
  refine lv_iload_n hx hb dX7_used_5 rfl (lv_at hl 1 rfl) ?_
  refine lv_if_ne (tgt := 16) hx hb dX7_used_6 (by decide) (fun c_1 => ?_) (fun c_1 => ?_)
  · refine lv_iload_n hx hb dX7_used_16 rfl (lv_at hl 1 rfl) ?_
    refine lv_iconst (v := 1) hx hb dX7_used_17 (by decide) ?_
    refine lv_icmp_ne (tgt := 28) hx hb dX7_used_18 (by decide) (fun c_2 => ?_) (fun c_2 => ?_)
    · refine lv_iload_n hx hb dX7_used_28 rfl (lv_at hl 1 rfl) ?_
      refine lv_iconst (v := 2) hx hb dX7_used_29 (by decide) ?_
      refine lv_icmp_ne (tgt := 40) hx hb dX7_used_30 (by decide) (fun c_3 => ?_) (fun c_3 => ?_)
      · refine lv_iconst (v := -1) hx hb dX7_used_40 (by decide) ?_
        have hP9 := hP.sub (ws' := [(h0, .inr (7, MO rf 0 0 0 0 0))]) [0] rfl
        have hD9 := hD.sub (ws' := [(h0, .inr (7, MO rf 0 0 0 0 0))]) [0] (by decide) rfl
        have hK9 := hK.sub (tys' := []) [] rfl
        refine W.widen (k := 0) (n := 0) (by decide) (by decide) ?_
        exact W.iret (v := (-1)) hx hb hr (fun t9 ht9 hW => ⟨⟨(-1), (MO rf 0 0 0 0 0), rfl, ⟨rfl, rfl⟩, by rw [ht9]; exact hP9, va_K.moved hW.alike hK9, hD9⟩, hS.F ht9⟩) hS.2.2 dX7_used_41
      · exfalso
        subst c_3
        revert ho
        decide
    · exfalso
      subst c_2
      revert ho
      decide
  · exfalso
    subst c_1
    revert ho
    decide
set_option maxHeartbeats 4000000 in
set_option maxRecDepth 100000 in
theorem c_forget (l : Launch) (dC : Nat → ClassId) (dI : Nat → Nat → Nat) (h0 : Nat) (rf : Nat → Nat) (sz : Nat) : Met l yX7_forget (Cond.code yX7_forget cX7_forget 1 none :: BG) ({ frames := 0, cells := 0, slots := 0, locals := 0 }) (va_Pc [.ref h0] (fun U => U.heap.size = sz ∧ va_P (dC, dI) vwCl [(h0, .inr (7, MO rf 0 0 0 0 0))] U.heap ∧ va_K (dC, dI) vwCl [] U ∧ va_D (fun _ => True) [(h0, .inr (7, MO rf 0 0 0 0 0))])) (va_Qv (fun (u9 : Unit) => True) (fun (_u : Unit) (t9 : State) => va_P (dC, dI) vwCl [] t9.heap ∧ va_K (dC, dI) vwCl [] t9 ∧ va_D (va_A [(h0, .inr (7, MO rf 0 0 0 0 0))] sz) []) (va_A [(h0, .inr (7, MO rf 0 0 0 0 0))] sz)) 0 0 (va_A [(h0, .inr (7, MO rf 0 0 0 0 0))] sz) := by
  refine Met.ofW (cc := cX7_forget) (maxL := 1) (ret := none) (by decide) rfl ?_
  intro p e s m args below meth c s₁ B hml hv
  obtain ⟨rfl, hsz, hP, hK, hD0⟩ := hv
  have hx := B.exec
  have hb := B.bytes
  have hr := B.returns
  have hts := atoms_spec (ws := Cond.code yX7_forget cX7_forget 1 none :: BG) B.pre
  have hB : ∀ w ∈ BG, w.before _ s = true := fun w h => hts w (List.mem_cons_of_mem _ h)
  have hown : s.vm.findClass RX7 = some m.cls := findClass_of_methodNamed B.named
  have hlocks := B.notSynchronized
  subst hsz
  have hD := hD0.self (sz := s.heap.size)
  generalize hAe : va_A [(h0, .inr (7, MO rf 0 0 0 0 0))] s.heap.size = A at hD ⊢
  have hA : ∀ q : Nat, s.heap.size ≤ q → A q := fun q h => by rw [← hAe]; exact Or.inr h
  have hS : va_S A s.heap s.heap [] := va_S.rf
  have hP : va_P (dC, dI) vwCl [(h0, .inr (7, MO rf 0 0 0 0 0))] s.heap := hP
  have hl := lv_entry ([.ref h0]) (n := 1) (Nat.le_of_ble_eq_true rfl)
  rw [lg_entry_eq]
  generalize (lg_sl ([.ref h0]) ++ List.replicate (1 - (lg_sl ([.ref h0])).length) Slot.unset).toArray = ls at hl ⊢
  have hl : lv_has ls 1 [(0, .ref h0)] := hl
  refine lv_aload_n hx hb dX7_forget_0 rfl (lv_at hl 0 rfl) ?_
  refine lv_iconst (v := -1) hx hb dX7_forget_1 (by decide) ?_
  refine va_put (D := (dC, dI)) (ci := 7) (v := .int (-1)) (ty := .int) (C := RX7) (T := TX7) (N := 55) hx hb hB inB7 tyX7 tyX7_ok nmX7 hown hK hP hD hS 0 rfl rfl 54 (by decide) (hB _ bg219) (fun _ h9 => h9) rfl (by decide +kernel) rfl rfl (Nat.le_of_ble_eq_true rfl) dX7_forget_2 (fun H locs hP hD hS => ?_)
  have hP : va_P (dC, dI) vwCl [(h0, .inr (7, MO rf 0 0 0 0 0))] H := hP
  have hD : va_D A [(h0, .inr (7, MO rf 0 0 0 0 0))] := hD
  refine lv_aload_n hx hb dX7_forget_5 rfl (lv_at hl 0 rfl) ?_
  refine lv_iconst (v := 0) hx hb dX7_forget_6 (by decide) ?_
  refine va_put (D := (dC, dI)) (ci := 7) (v := .int 0) (ty := .int) (C := RX7) (T := TX7) (N := 55) hx hb hB inB7 tyX7 tyX7_ok nmX7 hown hK hP hD hS 0 rfl rfl 49 (by decide) (hB _ bg231) (fun _ h9 => h9) rfl (by decide +kernel) rfl rfl (Nat.le_of_ble_eq_true rfl) dX7_forget_7 (fun H locs hP hD hS => ?_)
  have hP : va_P (dC, dI) vwCl [(h0, .inr (7, MO rf 0 0 0 0 0))] H := hP
  have hD : va_D A [(h0, .inr (7, MO rf 0 0 0 0 0))] := hD
  refine lv_aload_n hx hb dX7_forget_10 rfl (lv_at hl 0 rfl) ?_
  refine lv_iconst (v := 0) hx hb dX7_forget_11 (by decide) ?_
  refine va_put (D := (dC, dI)) (ci := 7) (v := .int 0) (ty := .int) (C := RX7) (T := TX7) (N := 55) hx hb hB inB7 tyX7 tyX7_ok nmX7 hown hK hP hD hS 0 rfl rfl 43 (by decide) (hB _ bg232) (fun _ h9 => h9) rfl (by decide +kernel) rfl rfl (Nat.le_of_ble_eq_true rfl) dX7_forget_12 (fun H locs hP hD hS => ?_)
  have hP : va_P (dC, dI) vwCl [(h0, .inr (7, MO rf 0 0 0 0 0))] H := hP
  have hD : va_D A [(h0, .inr (7, MO rf 0 0 0 0 0))] := hD
  refine lv_aload_n hx hb dX7_forget_15 rfl (lv_at hl 0 rfl) ?_
  refine lv_iconst (v := 0) hx hb dX7_forget_16 (by decide) ?_
  refine va_put (D := (dC, dI)) (ci := 7) (v := .int 0) (ty := .int) (C := RX7) (T := TX7) (N := 55) hx hb hB inB7 tyX7 tyX7_ok nmX7 hown hK hP hD hS 0 rfl rfl 50 (by decide) (hB _ bg233) (fun _ h9 => h9) rfl (by decide +kernel) rfl rfl (Nat.le_of_ble_eq_true rfl) dX7_forget_17 (fun H locs hP hD hS => ?_)
  have hP : va_P (dC, dI) vwCl [(h0, .inr (7, MO rf 0 0 0 0 0))] H := hP
  have hD : va_D A [(h0, .inr (7, MO rf 0 0 0 0 0))] := hD
  have hP9 := hP.sub (ws' := []) [] rfl
  have hD9 := hD.sub (ws' := []) [] (by decide) rfl
  have hK9 := hK.sub (tys' := []) [] rfl
  refine W.widen (k := 0) (n := 0) (by decide) (by decide) ?_
  exact W.vret hx hb hr (fun t9 ht9 hW => ⟨⟨(), rfl, trivial, by rw [ht9]; exact hP9, va_K.moved hW.alike hK9, hD9⟩, hS.F ht9⟩) hS.2.2 dX7_forget_20
set_option maxHeartbeats 4000000 in
set_option maxRecDepth 100000 in
theorem c_mreset (l : Launch) (dC : Nat → ClassId) (dI : Nat → Nat → Nat) (h0 : Nat) (rf : Nat → Nat) (sz : Nat) : Met l yX7_reset (Cond.code yX7_reset cX7_reset 1 none :: BG) ({ frames := 1, cells := 0, slots := 0, locals := 20 }) (va_Pc [.ref h0] (fun U => U.heap.size = sz ∧ va_P (dC, dI) vwCl [(h0, .inr (7, MO rf 0 0 0 0 0))] U.heap ∧ va_K (dC, dI) vwCl [] U ∧ va_D (fun _ => True) [(h0, .inr (7, MO rf 0 0 0 0 0))])) (va_Qv (fun (u9 : Unit) => True) (fun (_u : Unit) (t9 : State) => va_P (dC, dI) vwCl [] t9.heap ∧ va_K (dC, dI) vwCl [] t9 ∧ va_D (va_A [(h0, .inr (7, MO rf 0 0 0 0 0))] sz) []) (va_A [(h0, .inr (7, MO rf 0 0 0 0 0))] sz)) 0 0 (va_A [(h0, .inr (7, MO rf 0 0 0 0 0))] sz) := by
  refine Met.ofW (cc := cX7_reset) (maxL := 1) (ret := none) (by decide) rfl ?_
  intro p e s m args below meth c s₁ B hml hv
  obtain ⟨rfl, hsz, hP, hK, hD0⟩ := hv
  have hx := B.exec
  have hb := B.bytes
  have hr := B.returns
  have hts := atoms_spec (ws := Cond.code yX7_reset cX7_reset 1 none :: BG) B.pre
  have hB : ∀ w ∈ BG, w.before _ s = true := fun w h => hts w (List.mem_cons_of_mem _ h)
  have hown : s.vm.findClass RX7 = some m.cls := findClass_of_methodNamed B.named
  have hlocks := B.notSynchronized
  subst hsz
  have hD := hD0.self (sz := s.heap.size)
  generalize hAe : va_A [(h0, .inr (7, MO rf 0 0 0 0 0))] s.heap.size = A at hD ⊢
  have hA : ∀ q : Nat, s.heap.size ≤ q → A q := fun q h => by rw [← hAe]; exact Or.inr h
  have hS : va_S A s.heap s.heap [] := va_S.rf
  have hP : va_P (dC, dI) vwCl [(h0, .inr (7, MO rf 0 0 0 0 0))] s.heap := hP
  have hl := lv_entry ([.ref h0]) (n := 1) (Nat.le_of_ble_eq_true rfl)
  rw [lg_entry_eq]
  generalize (lg_sl ([.ref h0]) ++ List.replicate (1 - (lg_sl ([.ref h0])).length) Slot.unset).toArray = ls at hl ⊢
  have hl : lv_has ls 1 [(0, .ref h0)] := hl
  refine lv_aload_n hx hb dX7_reset_0 rfl (lv_at hl 0 rfl) ?_
  refine lv_iconst (v := 0) hx hb dX7_reset_1 (by decide) ?_
  refine va_put (D := (dC, dI)) (ci := 7) (v := .int 0) (ty := .int) (C := RX7) (T := TX7) (N := 55) hx hb hB inB7 tyX7 tyX7_ok nmX7 hown hK hP hD hS 0 rfl rfl 0 (by decide) (hB _ bg220) (fun _ h9 => h9) rfl (by decide +kernel) rfl rfl (Nat.le_of_ble_eq_true rfl) dX7_reset_2 (fun H locs hP hD hS => ?_)
  have hP : va_P (dC, dI) vwCl [(h0, .inr (7, MO rf 0 0 0 0 0))] H := hP
  have hD : va_D A [(h0, .inr (7, MO rf 0 0 0 0 0))] := hD
  refine lv_aload_n hx hb dX7_reset_5 rfl (lv_at hl 0 rfl) ?_
  refine lv_iconst (v := 0) hx hb dX7_reset_6 (by decide) ?_
  refine va_put (D := (dC, dI)) (ci := 7) (v := .int 0) (ty := .int) (C := RX7) (T := TX7) (N := 55) hx hb hB inB7 tyX7 tyX7_ok nmX7 hown hK hP hD hS 0 rfl rfl 1 (by decide) (hB _ bg221) (fun _ h9 => h9) rfl (by decide +kernel) rfl rfl (Nat.le_of_ble_eq_true rfl) dX7_reset_7 (fun H locs hP hD hS => ?_)
  have hP : va_P (dC, dI) vwCl [(h0, .inr (7, MO rf 0 0 0 0 0))] H := hP
  have hD : va_D A [(h0, .inr (7, MO rf 0 0 0 0 0))] := hD
  refine lv_aload_n hx hb dX7_reset_10 rfl (lv_at hl 0 rfl) ?_
  refine lv_iconst (v := 0) hx hb dX7_reset_11 (by decide) ?_
  refine va_put (D := (dC, dI)) (ci := 7) (v := .int 0) (ty := .int) (C := RX7) (T := TX7) (N := 55) hx hb hB inB7 tyX7 tyX7_ok nmX7 hown hK hP hD hS 0 rfl rfl 3 (by decide) (hB _ bg230) (fun _ h9 => h9) rfl (by decide +kernel) rfl rfl (Nat.le_of_ble_eq_true rfl) dX7_reset_12 (fun H locs hP hD hS => ?_)
  have hP : va_P (dC, dI) vwCl [(h0, .inr (7, MO rf 0 0 0 0 0))] H := hP
  have hD : va_D A [(h0, .inr (7, MO rf 0 0 0 0 0))] := hD
  refine lv_aload_n hx hb dX7_reset_15 rfl (lv_at hl 0 rfl) ?_
  have hPc := hP.sub (ws' := [(h0, .inr (7, MO rf 0 0 0 0 0))]) [0] rfl
  have hDc := hD.sub (ws' := [(h0, .inr (7, MO rf 0 0 0 0 0))]) [0] (by decide) rfl
  have hKc := hK.sub (tys' := []) [] rfl
  have hFc := va_free (wc := [(h0, .inr (7, MO rf 0 0 0 0 0))]) hD hS hA [0] rfl
  refine va_callv (va_runV (As := []) (rest := []) ⟨hx, hb, hml, hown, hB⟩ (c_forget l dC dI h0 rf H.size) (cwV 0 hB (bgV bg234 bg235 bg236 bg225 bg237) rfl rfl rfl (by decide +kernel) ⟨Nat.le_of_ble_eq_true rfl, Nat.le_of_ble_eq_true rfl⟩) ⟨fun a U g mk q => by obtain ⟨q0, q1, qP, qK, qD⟩ := q; exact ⟨q0, q1, qP, va_K.moved (u := U) (U := U.calling g mk a) (Vm.Alike.refl U.vm) qK, qD⟩, va_recv hKc hPc (ci := 7) (q0 := 0) rfl rfl, fun U hU hW => ⟨rfl, by rw [hU], by rw [hU]; exact hPc, va_K.moved hW.alike hKc, hDc.weaken (fun _ _ _ _ => trivial)⟩⟩ rfl rfl hl.1 rfl (lv_room (Nat.le_of_ble_eq_true rfl)) dX7_reset_16 ⟨Nat.le_of_ble_eq_true rfl, Nat.le_of_ble_eq_true rfl⟩) hS (fun q _ h => hFc q h) hFc (fun u9 t9 H1 locs ht9 hvm hw hB1 hz1 hk1 hS => ?_)
  try dsimp only at hB1 hw
  obtain ⟨hP1, hK1, hD1⟩ := hB1
  rw [ht9] at hP1
  have hK1 := va_K.moved hvm.symm hK1
  obtain ⟨hP, hD⟩ := va_join (wr := []) (w1 := []) hP hD [0] [] rfl rfl (by decide) (by decide) hk1 hFc hP1 hD1
  have hK := (hK.sub (tys' := []) [] rfl).app hK1
  generalize H1 = H at hP hS ⊢
  have hP : va_P (dC, dI) vwCl [] H := hP
  have hD : va_D A [] := hD
  have hK : va_K (dC, dI) vwCl [] s := hK
  have hP9 := hP.sub (ws' := []) [] rfl
  have hD9 := hD.sub (ws' := []) [] (by decide) rfl
  have hK9 := hK.sub (tys' := []) [] rfl
  refine W.widen (k := 0) (n := 0) (by decide) (by decide) ?_
  exact W.vret hx hb hr (fun t9 ht9 hW => ⟨⟨(), rfl, trivial, by rw [ht9]; exact hP9, va_K.moved hW.alike hK9, hD9⟩, hS.F ht9⟩) hS.2.2 dX7_reset_19
set_option maxHeartbeats 4000000 in
set_option maxRecDepth 100000 in
theorem c_mput0 (l : Launch) (dC : Nat → ClassId) (dI : Nat → Nat → Nat) (h0 : Nat) (rf : Nat → Nat) (c1 : ClassId) (c2 : ClassId) (c3 : ClassId) (c4 : ClassId) (f1 : Nat → Int32) (f2 : Nat → Int32) (f3 : Nat → Int32) (f4 : Nat → Int32) (o : Int32) (w : Int32) (a : Int32) (d : Int32) (sz : Nat) : Met l yX7_put (Cond.code yX7_put cX7_put 5 none :: BG) ({ frames := 0, cells := 0, slots := 0, locals := 0 }) (va_Pc [.ref h0, .int o, .int w, .int a, .int d] (fun U => U.heap.size = sz ∧ va_P (dC, dI) vwCl [(h0, .inr (7, MO rf 0 0 0 0 0)), (rf 14, .inl (c1, 400, .inl f1)), (rf 15, .inl (c2, 400, .inl f2)), (rf 16, .inl (c3, 400, .inl f3)), (rf 17, .inl (c4, 400, .inl f4))] U.heap ∧ va_K (dC, dI) vwCl [(c1, .int), (c2, .int), (c3, .int), (c4, .int)] U ∧ va_D (fun _ => True) [(h0, .inr (7, MO rf 0 0 0 0 0)), (rf 14, .inl (c1, 400, .inl f1)), (rf 15, .inl (c2, 400, .inl f2)), (rf 16, .inl (c3, 400, .inl f3)), (rf 17, .inl (c4, 400, .inl f4))])) (va_Qv (fun (u9 : (Nat → Int32) × (Nat → Int32) × (Nat → Int32) × (Nat → Int32)) => match u9 with | (g1, g2, g3, g4) => g1 0 = o ∧ g4 0 = d) (fun (u9 : (Nat → Int32) × (Nat → Int32) × (Nat → Int32) × (Nat → Int32)) (t9 : State) => match u9 with | (g1, g2, g3, g4) => va_P (dC, dI) vwCl [(h0, .inr (7, MO rf 0 0 1 0 0)), (rf 14, .inl (c1, 400, .inl g1)), (rf 15, .inl (c2, 400, .inl g2)), (rf 16, .inl (c3, 400, .inl g3)), (rf 17, .inl (c4, 400, .inl g4))] t9.heap ∧ va_K (dC, dI) vwCl [(c1, .int), (c2, .int), (c3, .int), (c4, .int)] t9 ∧ va_D (va_A [(h0, .inr (7, MO rf 0 0 0 0 0)), (rf 14, .inl (c1, 400, .inl f1)), (rf 15, .inl (c2, 400, .inl f2)), (rf 16, .inl (c3, 400, .inl f3)), (rf 17, .inl (c4, 400, .inl f4))] sz) [(h0, .inr (7, MO rf 0 0 1 0 0)), (rf 14, .inl (c1, 400, .inl g1)), (rf 15, .inl (c2, 400, .inl g2)), (rf 16, .inl (c3, 400, .inl g3)), (rf 17, .inl (c4, 400, .inl g4))]) (va_A [(h0, .inr (7, MO rf 0 0 0 0 0)), (rf 14, .inl (c1, 400, .inl f1)), (rf 15, .inl (c2, 400, .inl f2)), (rf 16, .inl (c3, 400, .inl f3)), (rf 17, .inl (c4, 400, .inl f4))] sz)) 0 0 (va_A [(h0, .inr (7, MO rf 0 0 0 0 0)), (rf 14, .inl (c1, 400, .inl f1)), (rf 15, .inl (c2, 400, .inl f2)), (rf 16, .inl (c3, 400, .inl f3)), (rf 17, .inl (c4, 400, .inl f4))] sz) := by
  refine Met.ofW (cc := cX7_put) (maxL := 5) (ret := none) (by decide) rfl ?_
  intro p e s m args below meth c s₁ B hml hv
  obtain ⟨rfl, hsz, hP, hK, hD0⟩ := hv
  have hx := B.exec
  have hb := B.bytes
  have hr := B.returns
  have hts := atoms_spec (ws := Cond.code yX7_put cX7_put 5 none :: BG) B.pre
  have hB : ∀ w ∈ BG, w.before _ s = true := fun w h => hts w (List.mem_cons_of_mem _ h)
  have hown : s.vm.findClass RX7 = some m.cls := findClass_of_methodNamed B.named
  have hlocks := B.notSynchronized
  subst hsz
  have hD := hD0.self (sz := s.heap.size)
  generalize hAe : va_A [(h0, .inr (7, MO rf 0 0 0 0 0)), (rf 14, .inl (c1, 400, .inl f1)), (rf 15, .inl (c2, 400, .inl f2)), (rf 16, .inl (c3, 400, .inl f3)), (rf 17, .inl (c4, 400, .inl f4))] s.heap.size = A at hD ⊢
  have hA : ∀ q : Nat, s.heap.size ≤ q → A q := fun q h => by rw [← hAe]; exact Or.inr h
  have hS : va_S A s.heap s.heap [] := va_S.rf
  have hP : va_P (dC, dI) vwCl [(h0, .inr (7, MO rf 0 0 0 0 0)), (rf 14, .inl (c1, 400, .inl f1)), (rf 15, .inl (c2, 400, .inl f2)), (rf 16, .inl (c3, 400, .inl f3)), (rf 17, .inl (c4, 400, .inl f4))] s.heap := hP
  have hl := lv_entry ([.ref h0, .int o, .int w, .int a, .int d]) (n := 5) (Nat.le_of_ble_eq_true rfl)
  rw [lg_entry_eq]
  generalize (lg_sl ([.ref h0, .int o, .int w, .int a, .int d]) ++ List.replicate (5 - (lg_sl ([.ref h0, .int o, .int w, .int a, .int d])).length) Slot.unset).toArray = ls at hl ⊢
  have hl : lv_has ls 5 [(0, .ref h0), (1, .int o), (2, .int w), (3, .int a), (4, .int d)] := hl
  refine lv_aload_n hx hb dX7_put_0 rfl (lv_at hl 0 rfl) ?_
  refine va_get (D := (dC, dI)) (ci := 7) (v := .ref (rf 14)) (C := RX7) (T := TX7) (N := 55) hx hb hB inB7 hown hK hP 0 rfl rfl 14 (by decide) (hB _ bg194) (fun _ h9 => h9) rfl dX7_put_1 ?_
  refine lv_aload_n hx hb dX7_put_4 rfl (lv_at hl 0 rfl) ?_
  refine va_get (D := (dC, dI)) (ci := 7) (v := .int 0) (C := RX7) (T := TX7) (N := 55) hx hb hB inB7 hown hK hP 0 rfl rfl 18 (by decide) (hB _ bg238) (fun _ h9 => h9) rfl dX7_put_5 ?_
  refine lv_iload_n hx hb dX7_put_8 rfl (lv_at hl 1 rfl) ?_
  refine va_iast hx hb hK hP hD hS 1 0 rfl rfl (i := 0) (x := o) (by rw [vp_in_iff]; decide) dX7_put_9 (fun H locs hP hD hS => ?_)
  obtain ⟨f1, ef1⟩ : ∃ z, z = upd f1 (0 : Int32).toNatClampNeg o := ⟨_, rfl⟩
  rw [← ef1] at hP hD
  have hP : va_P (dC, dI) vwCl [(h0, .inr (7, MO rf 0 0 0 0 0)), (rf 14, .inl (c1, 400, .inl f1)), (rf 15, .inl (c2, 400, .inl f2)), (rf 16, .inl (c3, 400, .inl f3)), (rf 17, .inl (c4, 400, .inl f4))] H := hP
  have hD : va_D A [(h0, .inr (7, MO rf 0 0 0 0 0)), (rf 14, .inl (c1, 400, .inl f1)), (rf 15, .inl (c2, 400, .inl f2)), (rf 16, .inl (c3, 400, .inl f3)), (rf 17, .inl (c4, 400, .inl f4))] := hD
  refine lv_aload_n hx hb dX7_put_10 rfl (lv_at hl 0 rfl) ?_
  refine va_get (D := (dC, dI)) (ci := 7) (v := .ref (rf 15)) (C := RX7) (T := TX7) (N := 55) hx hb hB inB7 hown hK hP 0 rfl rfl 15 (by decide) (hB _ bg195) (fun _ h9 => h9) rfl dX7_put_11 ?_
  refine lv_aload_n hx hb dX7_put_14 rfl (lv_at hl 0 rfl) ?_
  refine va_get (D := (dC, dI)) (ci := 7) (v := .int 0) (C := RX7) (T := TX7) (N := 55) hx hb hB inB7 hown hK hP 0 rfl rfl 18 (by decide) (hB _ bg238) (fun _ h9 => h9) rfl dX7_put_15 ?_
  refine lv_iload_n hx hb dX7_put_18 rfl (lv_at hl 2 rfl) ?_
  refine va_iast hx hb hK hP hD hS 2 1 rfl rfl (i := 0) (x := w) (by rw [vp_in_iff]; decide) dX7_put_19 (fun H locs hP hD hS => ?_)
  obtain ⟨f2, ef2⟩ : ∃ z, z = upd f2 (0 : Int32).toNatClampNeg w := ⟨_, rfl⟩
  rw [← ef2] at hP hD
  have hP : va_P (dC, dI) vwCl [(h0, .inr (7, MO rf 0 0 0 0 0)), (rf 14, .inl (c1, 400, .inl f1)), (rf 15, .inl (c2, 400, .inl f2)), (rf 16, .inl (c3, 400, .inl f3)), (rf 17, .inl (c4, 400, .inl f4))] H := hP
  have hD : va_D A [(h0, .inr (7, MO rf 0 0 0 0 0)), (rf 14, .inl (c1, 400, .inl f1)), (rf 15, .inl (c2, 400, .inl f2)), (rf 16, .inl (c3, 400, .inl f3)), (rf 17, .inl (c4, 400, .inl f4))] := hD
  refine lv_aload_n hx hb dX7_put_20 rfl (lv_at hl 0 rfl) ?_
  refine va_get (D := (dC, dI)) (ci := 7) (v := .ref (rf 16)) (C := RX7) (T := TX7) (N := 55) hx hb hB inB7 hown hK hP 0 rfl rfl 16 (by decide) (hB _ bg196) (fun _ h9 => h9) rfl dX7_put_21 ?_
  refine lv_aload_n hx hb dX7_put_24 rfl (lv_at hl 0 rfl) ?_
  refine va_get (D := (dC, dI)) (ci := 7) (v := .int 0) (C := RX7) (T := TX7) (N := 55) hx hb hB inB7 hown hK hP 0 rfl rfl 18 (by decide) (hB _ bg238) (fun _ h9 => h9) rfl dX7_put_25 ?_
  refine lv_iload_n hx hb dX7_put_28 rfl (lv_at hl 3 rfl) ?_
  refine va_iast hx hb hK hP hD hS 3 2 rfl rfl (i := 0) (x := a) (by rw [vp_in_iff]; decide) dX7_put_29 (fun H locs hP hD hS => ?_)
  obtain ⟨f3, ef3⟩ : ∃ z, z = upd f3 (0 : Int32).toNatClampNeg a := ⟨_, rfl⟩
  rw [← ef3] at hP hD
  have hP : va_P (dC, dI) vwCl [(h0, .inr (7, MO rf 0 0 0 0 0)), (rf 14, .inl (c1, 400, .inl f1)), (rf 15, .inl (c2, 400, .inl f2)), (rf 16, .inl (c3, 400, .inl f3)), (rf 17, .inl (c4, 400, .inl f4))] H := hP
  have hD : va_D A [(h0, .inr (7, MO rf 0 0 0 0 0)), (rf 14, .inl (c1, 400, .inl f1)), (rf 15, .inl (c2, 400, .inl f2)), (rf 16, .inl (c3, 400, .inl f3)), (rf 17, .inl (c4, 400, .inl f4))] := hD
  refine lv_aload_n hx hb dX7_put_30 rfl (lv_at hl 0 rfl) ?_
  refine va_get (D := (dC, dI)) (ci := 7) (v := .ref (rf 17)) (C := RX7) (T := TX7) (N := 55) hx hb hB inB7 hown hK hP 0 rfl rfl 17 (by decide) (hB _ bg197) (fun _ h9 => h9) rfl dX7_put_31 ?_
  refine lv_aload_n hx hb dX7_put_34 rfl (lv_at hl 0 rfl) ?_
  refine va_get (D := (dC, dI)) (ci := 7) (v := .int 0) (C := RX7) (T := TX7) (N := 55) hx hb hB inB7 hown hK hP 0 rfl rfl 18 (by decide) (hB _ bg238) (fun _ h9 => h9) rfl dX7_put_35 ?_
  refine lv_iload hx hb dX7_put_38 (lv_at hl 4 rfl) ?_
  refine va_iast hx hb hK hP hD hS 4 3 rfl rfl (i := 0) (x := d) (by rw [vp_in_iff]; decide) dX7_put_40 (fun H locs hP hD hS => ?_)
  obtain ⟨f4, ef4⟩ : ∃ z, z = upd f4 (0 : Int32).toNatClampNeg d := ⟨_, rfl⟩
  rw [← ef4] at hP hD
  have hP : va_P (dC, dI) vwCl [(h0, .inr (7, MO rf 0 0 0 0 0)), (rf 14, .inl (c1, 400, .inl f1)), (rf 15, .inl (c2, 400, .inl f2)), (rf 16, .inl (c3, 400, .inl f3)), (rf 17, .inl (c4, 400, .inl f4))] H := hP
  have hD : va_D A [(h0, .inr (7, MO rf 0 0 0 0 0)), (rf 14, .inl (c1, 400, .inl f1)), (rf 15, .inl (c2, 400, .inl f2)), (rf 16, .inl (c3, 400, .inl f3)), (rf 17, .inl (c4, 400, .inl f4))] := hD
  refine lv_aload_n hx hb dX7_put_41 rfl (lv_at hl 0 rfl) ?_
  refine lv_dup hx hb dX7_put_42 rfl ?_
  refine va_get (D := (dC, dI)) (ci := 7) (v := .int 0) (C := RX7) (T := TX7) (N := 55) hx hb hB inB7 hown hK hP 0 rfl rfl 18 (by decide) (hB _ bg238) (fun _ h9 => h9) rfl dX7_put_43 ?_
  refine lv_iconst (v := 1) hx hb dX7_put_46 (by decide) ?_
  refine lv_iadd hx hb dX7_put_47 ?_
  rw [show (0 : Int32) + 1 = 1 by decide]
  refine va_put (D := (dC, dI)) (ci := 7) (v := .int 1) (ty := .int) (C := RX7) (T := TX7) (N := 55) hx hb hB inB7 tyX7 tyX7_ok nmX7 hown hK hP hD hS 0 rfl rfl 18 (by decide) (hB _ bg238) (fun _ h9 => h9) rfl (by decide +kernel) rfl rfl (Nat.le_of_ble_eq_true rfl) dX7_put_48 (fun H locs hP hD hS => ?_)
  have hP : va_P (dC, dI) vwCl [(h0, .inr (7, MO rf 0 0 1 0 0)), (rf 14, .inl (c1, 400, .inl f1)), (rf 15, .inl (c2, 400, .inl f2)), (rf 16, .inl (c3, 400, .inl f3)), (rf 17, .inl (c4, 400, .inl f4))] H := hP
  have hD : va_D A [(h0, .inr (7, MO rf 0 0 1 0 0)), (rf 14, .inl (c1, 400, .inl f1)), (rf 15, .inl (c2, 400, .inl f2)), (rf 16, .inl (c3, 400, .inl f3)), (rf 17, .inl (c4, 400, .inl f4))] := hD
  have hP9 := hP.sub (ws' := [(h0, .inr (7, MO rf 0 0 1 0 0)), (rf 14, .inl (c1, 400, .inl f1)), (rf 15, .inl (c2, 400, .inl f2)), (rf 16, .inl (c3, 400, .inl f3)), (rf 17, .inl (c4, 400, .inl f4))]) [0, 1, 2, 3, 4] rfl
  have hD9 := hD.sub (ws' := [(h0, .inr (7, MO rf 0 0 1 0 0)), (rf 14, .inl (c1, 400, .inl f1)), (rf 15, .inl (c2, 400, .inl f2)), (rf 16, .inl (c3, 400, .inl f3)), (rf 17, .inl (c4, 400, .inl f4))]) [0, 1, 2, 3, 4] (by decide) rfl
  have hK9 := hK.sub (tys' := [(c1, .int), (c2, .int), (c3, .int), (c4, .int)]) [0, 1, 2, 3] rfl
  refine W.widen (k := 0) (n := 0) (by decide) (by decide) ?_
  exact W.vret hx hb hr (fun t9 ht9 hW => ⟨⟨(f1, f2, f3, f4), rfl, ⟨(by rw [ef1, show (0 : Int32).toNatClampNeg = 0 by decide]; exact pk_us), (by rw [ef4, show (0 : Int32).toNatClampNeg = 0 by decide]; exact pk_us)⟩, by rw [ht9]; exact hP9, va_K.moved hW.alike hK9, hD9⟩, hS.F ht9⟩) hS.2.2 dX7_put_51
set_option maxHeartbeats 4000000 in
set_option maxRecDepth 100000 in
theorem c_mput1 (l : Launch) (dC : Nat → ClassId) (dI : Nat → Nat → Nat) (h0 : Nat) (rf : Nat → Nat) (c1 : ClassId) (c2 : ClassId) (c3 : ClassId) (c4 : ClassId) (f1 : Nat → Int32) (f2 : Nat → Int32) (f3 : Nat → Int32) (f4 : Nat → Int32) (o : Int32) (w : Int32) (a : Int32) (d : Int32) (sz : Nat) : Met l yX7_put (Cond.code yX7_put cX7_put 5 none :: BG) ({ frames := 0, cells := 0, slots := 0, locals := 0 }) (va_Pc [.ref h0, .int o, .int w, .int a, .int d] (fun U => U.heap.size = sz ∧ va_P (dC, dI) vwCl [(h0, .inr (7, MO rf 0 0 1 0 0)), (rf 14, .inl (c1, 400, .inl f1)), (rf 15, .inl (c2, 400, .inl f2)), (rf 16, .inl (c3, 400, .inl f3)), (rf 17, .inl (c4, 400, .inl f4))] U.heap ∧ va_K (dC, dI) vwCl [(c1, .int), (c2, .int), (c3, .int), (c4, .int)] U ∧ va_D (fun _ => True) [(h0, .inr (7, MO rf 0 0 1 0 0)), (rf 14, .inl (c1, 400, .inl f1)), (rf 15, .inl (c2, 400, .inl f2)), (rf 16, .inl (c3, 400, .inl f3)), (rf 17, .inl (c4, 400, .inl f4))])) (va_Qv (fun (u9 : (Nat → Int32) × (Nat → Int32) × (Nat → Int32) × (Nat → Int32)) => match u9 with | (g1, g2, g3, g4) => g1 1 = o ∧ g4 1 = d) (fun (u9 : (Nat → Int32) × (Nat → Int32) × (Nat → Int32) × (Nat → Int32)) (t9 : State) => match u9 with | (g1, g2, g3, g4) => va_P (dC, dI) vwCl [(h0, .inr (7, MO rf 0 0 2 0 0)), (rf 14, .inl (c1, 400, .inl g1)), (rf 15, .inl (c2, 400, .inl g2)), (rf 16, .inl (c3, 400, .inl g3)), (rf 17, .inl (c4, 400, .inl g4))] t9.heap ∧ va_K (dC, dI) vwCl [(c1, .int), (c2, .int), (c3, .int), (c4, .int)] t9 ∧ va_D (va_A [(h0, .inr (7, MO rf 0 0 1 0 0)), (rf 14, .inl (c1, 400, .inl f1)), (rf 15, .inl (c2, 400, .inl f2)), (rf 16, .inl (c3, 400, .inl f3)), (rf 17, .inl (c4, 400, .inl f4))] sz) [(h0, .inr (7, MO rf 0 0 2 0 0)), (rf 14, .inl (c1, 400, .inl g1)), (rf 15, .inl (c2, 400, .inl g2)), (rf 16, .inl (c3, 400, .inl g3)), (rf 17, .inl (c4, 400, .inl g4))]) (va_A [(h0, .inr (7, MO rf 0 0 1 0 0)), (rf 14, .inl (c1, 400, .inl f1)), (rf 15, .inl (c2, 400, .inl f2)), (rf 16, .inl (c3, 400, .inl f3)), (rf 17, .inl (c4, 400, .inl f4))] sz)) 0 0 (va_A [(h0, .inr (7, MO rf 0 0 1 0 0)), (rf 14, .inl (c1, 400, .inl f1)), (rf 15, .inl (c2, 400, .inl f2)), (rf 16, .inl (c3, 400, .inl f3)), (rf 17, .inl (c4, 400, .inl f4))] sz) := by
  refine Met.ofW (cc := cX7_put) (maxL := 5) (ret := none) (by decide) rfl ?_
  intro p e s m args below meth c s₁ B hml hv
  obtain ⟨rfl, hsz, hP, hK, hD0⟩ := hv
  have hx := B.exec
  have hb := B.bytes
  have hr := B.returns
  have hts := atoms_spec (ws := Cond.code yX7_put cX7_put 5 none :: BG) B.pre
  have hB : ∀ w ∈ BG, w.before _ s = true := fun w h => hts w (List.mem_cons_of_mem _ h)
  have hown : s.vm.findClass RX7 = some m.cls := findClass_of_methodNamed B.named
  have hlocks := B.notSynchronized
  subst hsz
  have hD := hD0.self (sz := s.heap.size)
  generalize hAe : va_A [(h0, .inr (7, MO rf 0 0 1 0 0)), (rf 14, .inl (c1, 400, .inl f1)), (rf 15, .inl (c2, 400, .inl f2)), (rf 16, .inl (c3, 400, .inl f3)), (rf 17, .inl (c4, 400, .inl f4))] s.heap.size = A at hD ⊢
  have hA : ∀ q : Nat, s.heap.size ≤ q → A q := fun q h => by rw [← hAe]; exact Or.inr h
  have hS : va_S A s.heap s.heap [] := va_S.rf
  have hP : va_P (dC, dI) vwCl [(h0, .inr (7, MO rf 0 0 1 0 0)), (rf 14, .inl (c1, 400, .inl f1)), (rf 15, .inl (c2, 400, .inl f2)), (rf 16, .inl (c3, 400, .inl f3)), (rf 17, .inl (c4, 400, .inl f4))] s.heap := hP
  have hl := lv_entry ([.ref h0, .int o, .int w, .int a, .int d]) (n := 5) (Nat.le_of_ble_eq_true rfl)
  rw [lg_entry_eq]
  generalize (lg_sl ([.ref h0, .int o, .int w, .int a, .int d]) ++ List.replicate (5 - (lg_sl ([.ref h0, .int o, .int w, .int a, .int d])).length) Slot.unset).toArray = ls at hl ⊢
  have hl : lv_has ls 5 [(0, .ref h0), (1, .int o), (2, .int w), (3, .int a), (4, .int d)] := hl
  refine lv_aload_n hx hb dX7_put_0 rfl (lv_at hl 0 rfl) ?_
  refine va_get (D := (dC, dI)) (ci := 7) (v := .ref (rf 14)) (C := RX7) (T := TX7) (N := 55) hx hb hB inB7 hown hK hP 0 rfl rfl 14 (by decide) (hB _ bg194) (fun _ h9 => h9) rfl dX7_put_1 ?_
  refine lv_aload_n hx hb dX7_put_4 rfl (lv_at hl 0 rfl) ?_
  refine va_get (D := (dC, dI)) (ci := 7) (v := .int 1) (C := RX7) (T := TX7) (N := 55) hx hb hB inB7 hown hK hP 0 rfl rfl 18 (by decide) (hB _ bg238) (fun _ h9 => h9) rfl dX7_put_5 ?_
  refine lv_iload_n hx hb dX7_put_8 rfl (lv_at hl 1 rfl) ?_
  refine va_iast hx hb hK hP hD hS 1 0 rfl rfl (i := 1) (x := o) (by rw [vp_in_iff]; decide) dX7_put_9 (fun H locs hP hD hS => ?_)
  obtain ⟨f1, ef1⟩ : ∃ z, z = upd f1 (1 : Int32).toNatClampNeg o := ⟨_, rfl⟩
  rw [← ef1] at hP hD
  have hP : va_P (dC, dI) vwCl [(h0, .inr (7, MO rf 0 0 1 0 0)), (rf 14, .inl (c1, 400, .inl f1)), (rf 15, .inl (c2, 400, .inl f2)), (rf 16, .inl (c3, 400, .inl f3)), (rf 17, .inl (c4, 400, .inl f4))] H := hP
  have hD : va_D A [(h0, .inr (7, MO rf 0 0 1 0 0)), (rf 14, .inl (c1, 400, .inl f1)), (rf 15, .inl (c2, 400, .inl f2)), (rf 16, .inl (c3, 400, .inl f3)), (rf 17, .inl (c4, 400, .inl f4))] := hD
  refine lv_aload_n hx hb dX7_put_10 rfl (lv_at hl 0 rfl) ?_
  refine va_get (D := (dC, dI)) (ci := 7) (v := .ref (rf 15)) (C := RX7) (T := TX7) (N := 55) hx hb hB inB7 hown hK hP 0 rfl rfl 15 (by decide) (hB _ bg195) (fun _ h9 => h9) rfl dX7_put_11 ?_
  refine lv_aload_n hx hb dX7_put_14 rfl (lv_at hl 0 rfl) ?_
  refine va_get (D := (dC, dI)) (ci := 7) (v := .int 1) (C := RX7) (T := TX7) (N := 55) hx hb hB inB7 hown hK hP 0 rfl rfl 18 (by decide) (hB _ bg238) (fun _ h9 => h9) rfl dX7_put_15 ?_
  refine lv_iload_n hx hb dX7_put_18 rfl (lv_at hl 2 rfl) ?_
  refine va_iast hx hb hK hP hD hS 2 1 rfl rfl (i := 1) (x := w) (by rw [vp_in_iff]; decide) dX7_put_19 (fun H locs hP hD hS => ?_)
  obtain ⟨f2, ef2⟩ : ∃ z, z = upd f2 (1 : Int32).toNatClampNeg w := ⟨_, rfl⟩
  rw [← ef2] at hP hD
  have hP : va_P (dC, dI) vwCl [(h0, .inr (7, MO rf 0 0 1 0 0)), (rf 14, .inl (c1, 400, .inl f1)), (rf 15, .inl (c2, 400, .inl f2)), (rf 16, .inl (c3, 400, .inl f3)), (rf 17, .inl (c4, 400, .inl f4))] H := hP
  have hD : va_D A [(h0, .inr (7, MO rf 0 0 1 0 0)), (rf 14, .inl (c1, 400, .inl f1)), (rf 15, .inl (c2, 400, .inl f2)), (rf 16, .inl (c3, 400, .inl f3)), (rf 17, .inl (c4, 400, .inl f4))] := hD
  refine lv_aload_n hx hb dX7_put_20 rfl (lv_at hl 0 rfl) ?_
  refine va_get (D := (dC, dI)) (ci := 7) (v := .ref (rf 16)) (C := RX7) (T := TX7) (N := 55) hx hb hB inB7 hown hK hP 0 rfl rfl 16 (by decide) (hB _ bg196) (fun _ h9 => h9) rfl dX7_put_21 ?_
  refine lv_aload_n hx hb dX7_put_24 rfl (lv_at hl 0 rfl) ?_
  refine va_get (D := (dC, dI)) (ci := 7) (v := .int 1) (C := RX7) (T := TX7) (N := 55) hx hb hB inB7 hown hK hP 0 rfl rfl 18 (by decide) (hB _ bg238) (fun _ h9 => h9) rfl dX7_put_25 ?_
  refine lv_iload_n hx hb dX7_put_28 rfl (lv_at hl 3 rfl) ?_
  refine va_iast hx hb hK hP hD hS 3 2 rfl rfl (i := 1) (x := a) (by rw [vp_in_iff]; decide) dX7_put_29 (fun H locs hP hD hS => ?_)
  obtain ⟨f3, ef3⟩ : ∃ z, z = upd f3 (1 : Int32).toNatClampNeg a := ⟨_, rfl⟩
  rw [← ef3] at hP hD
  have hP : va_P (dC, dI) vwCl [(h0, .inr (7, MO rf 0 0 1 0 0)), (rf 14, .inl (c1, 400, .inl f1)), (rf 15, .inl (c2, 400, .inl f2)), (rf 16, .inl (c3, 400, .inl f3)), (rf 17, .inl (c4, 400, .inl f4))] H := hP
  have hD : va_D A [(h0, .inr (7, MO rf 0 0 1 0 0)), (rf 14, .inl (c1, 400, .inl f1)), (rf 15, .inl (c2, 400, .inl f2)), (rf 16, .inl (c3, 400, .inl f3)), (rf 17, .inl (c4, 400, .inl f4))] := hD
  refine lv_aload_n hx hb dX7_put_30 rfl (lv_at hl 0 rfl) ?_
  refine va_get (D := (dC, dI)) (ci := 7) (v := .ref (rf 17)) (C := RX7) (T := TX7) (N := 55) hx hb hB inB7 hown hK hP 0 rfl rfl 17 (by decide) (hB _ bg197) (fun _ h9 => h9) rfl dX7_put_31 ?_
  refine lv_aload_n hx hb dX7_put_34 rfl (lv_at hl 0 rfl) ?_
  refine va_get (D := (dC, dI)) (ci := 7) (v := .int 1) (C := RX7) (T := TX7) (N := 55) hx hb hB inB7 hown hK hP 0 rfl rfl 18 (by decide) (hB _ bg238) (fun _ h9 => h9) rfl dX7_put_35 ?_
  refine lv_iload hx hb dX7_put_38 (lv_at hl 4 rfl) ?_
  refine va_iast hx hb hK hP hD hS 4 3 rfl rfl (i := 1) (x := d) (by rw [vp_in_iff]; decide) dX7_put_40 (fun H locs hP hD hS => ?_)
  obtain ⟨f4, ef4⟩ : ∃ z, z = upd f4 (1 : Int32).toNatClampNeg d := ⟨_, rfl⟩
  rw [← ef4] at hP hD
  have hP : va_P (dC, dI) vwCl [(h0, .inr (7, MO rf 0 0 1 0 0)), (rf 14, .inl (c1, 400, .inl f1)), (rf 15, .inl (c2, 400, .inl f2)), (rf 16, .inl (c3, 400, .inl f3)), (rf 17, .inl (c4, 400, .inl f4))] H := hP
  have hD : va_D A [(h0, .inr (7, MO rf 0 0 1 0 0)), (rf 14, .inl (c1, 400, .inl f1)), (rf 15, .inl (c2, 400, .inl f2)), (rf 16, .inl (c3, 400, .inl f3)), (rf 17, .inl (c4, 400, .inl f4))] := hD
  refine lv_aload_n hx hb dX7_put_41 rfl (lv_at hl 0 rfl) ?_
  refine lv_dup hx hb dX7_put_42 rfl ?_
  refine va_get (D := (dC, dI)) (ci := 7) (v := .int 1) (C := RX7) (T := TX7) (N := 55) hx hb hB inB7 hown hK hP 0 rfl rfl 18 (by decide) (hB _ bg238) (fun _ h9 => h9) rfl dX7_put_43 ?_
  refine lv_iconst (v := 1) hx hb dX7_put_46 (by decide) ?_
  refine lv_iadd hx hb dX7_put_47 ?_
  rw [show (1 : Int32) + 1 = 2 by decide]
  refine va_put (D := (dC, dI)) (ci := 7) (v := .int 2) (ty := .int) (C := RX7) (T := TX7) (N := 55) hx hb hB inB7 tyX7 tyX7_ok nmX7 hown hK hP hD hS 0 rfl rfl 18 (by decide) (hB _ bg238) (fun _ h9 => h9) rfl (by decide +kernel) rfl rfl (Nat.le_of_ble_eq_true rfl) dX7_put_48 (fun H locs hP hD hS => ?_)
  have hP : va_P (dC, dI) vwCl [(h0, .inr (7, MO rf 0 0 2 0 0)), (rf 14, .inl (c1, 400, .inl f1)), (rf 15, .inl (c2, 400, .inl f2)), (rf 16, .inl (c3, 400, .inl f3)), (rf 17, .inl (c4, 400, .inl f4))] H := hP
  have hD : va_D A [(h0, .inr (7, MO rf 0 0 2 0 0)), (rf 14, .inl (c1, 400, .inl f1)), (rf 15, .inl (c2, 400, .inl f2)), (rf 16, .inl (c3, 400, .inl f3)), (rf 17, .inl (c4, 400, .inl f4))] := hD
  have hP9 := hP.sub (ws' := [(h0, .inr (7, MO rf 0 0 2 0 0)), (rf 14, .inl (c1, 400, .inl f1)), (rf 15, .inl (c2, 400, .inl f2)), (rf 16, .inl (c3, 400, .inl f3)), (rf 17, .inl (c4, 400, .inl f4))]) [0, 1, 2, 3, 4] rfl
  have hD9 := hD.sub (ws' := [(h0, .inr (7, MO rf 0 0 2 0 0)), (rf 14, .inl (c1, 400, .inl f1)), (rf 15, .inl (c2, 400, .inl f2)), (rf 16, .inl (c3, 400, .inl f3)), (rf 17, .inl (c4, 400, .inl f4))]) [0, 1, 2, 3, 4] (by decide) rfl
  have hK9 := hK.sub (tys' := [(c1, .int), (c2, .int), (c3, .int), (c4, .int)]) [0, 1, 2, 3] rfl
  refine W.widen (k := 0) (n := 0) (by decide) (by decide) ?_
  exact W.vret hx hb hr (fun t9 ht9 hW => ⟨⟨(f1, f2, f3, f4), rfl, ⟨(by rw [ef1, show (1 : Int32).toNatClampNeg = 1 by decide]; exact pk_us), (by rw [ef4, show (1 : Int32).toNatClampNeg = 1 by decide]; exact pk_us)⟩, by rw [ht9]; exact hP9, va_K.moved hW.alike hK9, hD9⟩, hS.F ht9⟩) hS.2.2 dX7_put_51
set_option maxHeartbeats 4000000 in
set_option maxRecDepth 100000 in
theorem c_mput2 (l : Launch) (dC : Nat → ClassId) (dI : Nat → Nat → Nat) (h0 : Nat) (rf : Nat → Nat) (c1 : ClassId) (c2 : ClassId) (c3 : ClassId) (c4 : ClassId) (f1 : Nat → Int32) (f2 : Nat → Int32) (f3 : Nat → Int32) (f4 : Nat → Int32) (o : Int32) (w : Int32) (a : Int32) (d : Int32) (sz : Nat) : Met l yX7_put (Cond.code yX7_put cX7_put 5 none :: BG) ({ frames := 0, cells := 0, slots := 0, locals := 0 }) (va_Pc [.ref h0, .int o, .int w, .int a, .int d] (fun U => U.heap.size = sz ∧ va_P (dC, dI) vwCl [(h0, .inr (7, MO rf 0 0 2 0 0)), (rf 14, .inl (c1, 400, .inl f1)), (rf 15, .inl (c2, 400, .inl f2)), (rf 16, .inl (c3, 400, .inl f3)), (rf 17, .inl (c4, 400, .inl f4))] U.heap ∧ va_K (dC, dI) vwCl [(c1, .int), (c2, .int), (c3, .int), (c4, .int)] U ∧ va_D (fun _ => True) [(h0, .inr (7, MO rf 0 0 2 0 0)), (rf 14, .inl (c1, 400, .inl f1)), (rf 15, .inl (c2, 400, .inl f2)), (rf 16, .inl (c3, 400, .inl f3)), (rf 17, .inl (c4, 400, .inl f4))])) (va_Qv (fun (u9 : (Nat → Int32) × (Nat → Int32) × (Nat → Int32) × (Nat → Int32)) => match u9 with | (g1, g2, g3, g4) => g1 2 = o ∧ g4 2 = d) (fun (u9 : (Nat → Int32) × (Nat → Int32) × (Nat → Int32) × (Nat → Int32)) (t9 : State) => match u9 with | (g1, g2, g3, g4) => va_P (dC, dI) vwCl [(h0, .inr (7, MO rf 0 0 3 0 0)), (rf 14, .inl (c1, 400, .inl g1)), (rf 15, .inl (c2, 400, .inl g2)), (rf 16, .inl (c3, 400, .inl g3)), (rf 17, .inl (c4, 400, .inl g4))] t9.heap ∧ va_K (dC, dI) vwCl [(c1, .int), (c2, .int), (c3, .int), (c4, .int)] t9 ∧ va_D (va_A [(h0, .inr (7, MO rf 0 0 2 0 0)), (rf 14, .inl (c1, 400, .inl f1)), (rf 15, .inl (c2, 400, .inl f2)), (rf 16, .inl (c3, 400, .inl f3)), (rf 17, .inl (c4, 400, .inl f4))] sz) [(h0, .inr (7, MO rf 0 0 3 0 0)), (rf 14, .inl (c1, 400, .inl g1)), (rf 15, .inl (c2, 400, .inl g2)), (rf 16, .inl (c3, 400, .inl g3)), (rf 17, .inl (c4, 400, .inl g4))]) (va_A [(h0, .inr (7, MO rf 0 0 2 0 0)), (rf 14, .inl (c1, 400, .inl f1)), (rf 15, .inl (c2, 400, .inl f2)), (rf 16, .inl (c3, 400, .inl f3)), (rf 17, .inl (c4, 400, .inl f4))] sz)) 0 0 (va_A [(h0, .inr (7, MO rf 0 0 2 0 0)), (rf 14, .inl (c1, 400, .inl f1)), (rf 15, .inl (c2, 400, .inl f2)), (rf 16, .inl (c3, 400, .inl f3)), (rf 17, .inl (c4, 400, .inl f4))] sz) := by
  refine Met.ofW (cc := cX7_put) (maxL := 5) (ret := none) (by decide) rfl ?_
  intro p e s m args below meth c s₁ B hml hv
  obtain ⟨rfl, hsz, hP, hK, hD0⟩ := hv
  have hx := B.exec
  have hb := B.bytes
  have hr := B.returns
  have hts := atoms_spec (ws := Cond.code yX7_put cX7_put 5 none :: BG) B.pre
  have hB : ∀ w ∈ BG, w.before _ s = true := fun w h => hts w (List.mem_cons_of_mem _ h)
  have hown : s.vm.findClass RX7 = some m.cls := findClass_of_methodNamed B.named
  have hlocks := B.notSynchronized
  subst hsz
  have hD := hD0.self (sz := s.heap.size)
  generalize hAe : va_A [(h0, .inr (7, MO rf 0 0 2 0 0)), (rf 14, .inl (c1, 400, .inl f1)), (rf 15, .inl (c2, 400, .inl f2)), (rf 16, .inl (c3, 400, .inl f3)), (rf 17, .inl (c4, 400, .inl f4))] s.heap.size = A at hD ⊢
  have hA : ∀ q : Nat, s.heap.size ≤ q → A q := fun q h => by rw [← hAe]; exact Or.inr h
  have hS : va_S A s.heap s.heap [] := va_S.rf
  have hP : va_P (dC, dI) vwCl [(h0, .inr (7, MO rf 0 0 2 0 0)), (rf 14, .inl (c1, 400, .inl f1)), (rf 15, .inl (c2, 400, .inl f2)), (rf 16, .inl (c3, 400, .inl f3)), (rf 17, .inl (c4, 400, .inl f4))] s.heap := hP
  have hl := lv_entry ([.ref h0, .int o, .int w, .int a, .int d]) (n := 5) (Nat.le_of_ble_eq_true rfl)
  rw [lg_entry_eq]
  generalize (lg_sl ([.ref h0, .int o, .int w, .int a, .int d]) ++ List.replicate (5 - (lg_sl ([.ref h0, .int o, .int w, .int a, .int d])).length) Slot.unset).toArray = ls at hl ⊢
  have hl : lv_has ls 5 [(0, .ref h0), (1, .int o), (2, .int w), (3, .int a), (4, .int d)] := hl
  refine lv_aload_n hx hb dX7_put_0 rfl (lv_at hl 0 rfl) ?_
  refine va_get (D := (dC, dI)) (ci := 7) (v := .ref (rf 14)) (C := RX7) (T := TX7) (N := 55) hx hb hB inB7 hown hK hP 0 rfl rfl 14 (by decide) (hB _ bg194) (fun _ h9 => h9) rfl dX7_put_1 ?_
  refine lv_aload_n hx hb dX7_put_4 rfl (lv_at hl 0 rfl) ?_
  refine va_get (D := (dC, dI)) (ci := 7) (v := .int 2) (C := RX7) (T := TX7) (N := 55) hx hb hB inB7 hown hK hP 0 rfl rfl 18 (by decide) (hB _ bg238) (fun _ h9 => h9) rfl dX7_put_5 ?_
  refine lv_iload_n hx hb dX7_put_8 rfl (lv_at hl 1 rfl) ?_
  refine va_iast hx hb hK hP hD hS 1 0 rfl rfl (i := 2) (x := o) (by rw [vp_in_iff]; decide) dX7_put_9 (fun H locs hP hD hS => ?_)
  obtain ⟨f1, ef1⟩ : ∃ z, z = upd f1 (2 : Int32).toNatClampNeg o := ⟨_, rfl⟩
  rw [← ef1] at hP hD
  have hP : va_P (dC, dI) vwCl [(h0, .inr (7, MO rf 0 0 2 0 0)), (rf 14, .inl (c1, 400, .inl f1)), (rf 15, .inl (c2, 400, .inl f2)), (rf 16, .inl (c3, 400, .inl f3)), (rf 17, .inl (c4, 400, .inl f4))] H := hP
  have hD : va_D A [(h0, .inr (7, MO rf 0 0 2 0 0)), (rf 14, .inl (c1, 400, .inl f1)), (rf 15, .inl (c2, 400, .inl f2)), (rf 16, .inl (c3, 400, .inl f3)), (rf 17, .inl (c4, 400, .inl f4))] := hD
  refine lv_aload_n hx hb dX7_put_10 rfl (lv_at hl 0 rfl) ?_
  refine va_get (D := (dC, dI)) (ci := 7) (v := .ref (rf 15)) (C := RX7) (T := TX7) (N := 55) hx hb hB inB7 hown hK hP 0 rfl rfl 15 (by decide) (hB _ bg195) (fun _ h9 => h9) rfl dX7_put_11 ?_
  refine lv_aload_n hx hb dX7_put_14 rfl (lv_at hl 0 rfl) ?_
  refine va_get (D := (dC, dI)) (ci := 7) (v := .int 2) (C := RX7) (T := TX7) (N := 55) hx hb hB inB7 hown hK hP 0 rfl rfl 18 (by decide) (hB _ bg238) (fun _ h9 => h9) rfl dX7_put_15 ?_
  refine lv_iload_n hx hb dX7_put_18 rfl (lv_at hl 2 rfl) ?_
  refine va_iast hx hb hK hP hD hS 2 1 rfl rfl (i := 2) (x := w) (by rw [vp_in_iff]; decide) dX7_put_19 (fun H locs hP hD hS => ?_)
  obtain ⟨f2, ef2⟩ : ∃ z, z = upd f2 (2 : Int32).toNatClampNeg w := ⟨_, rfl⟩
  rw [← ef2] at hP hD
  have hP : va_P (dC, dI) vwCl [(h0, .inr (7, MO rf 0 0 2 0 0)), (rf 14, .inl (c1, 400, .inl f1)), (rf 15, .inl (c2, 400, .inl f2)), (rf 16, .inl (c3, 400, .inl f3)), (rf 17, .inl (c4, 400, .inl f4))] H := hP
  have hD : va_D A [(h0, .inr (7, MO rf 0 0 2 0 0)), (rf 14, .inl (c1, 400, .inl f1)), (rf 15, .inl (c2, 400, .inl f2)), (rf 16, .inl (c3, 400, .inl f3)), (rf 17, .inl (c4, 400, .inl f4))] := hD
  refine lv_aload_n hx hb dX7_put_20 rfl (lv_at hl 0 rfl) ?_
  refine va_get (D := (dC, dI)) (ci := 7) (v := .ref (rf 16)) (C := RX7) (T := TX7) (N := 55) hx hb hB inB7 hown hK hP 0 rfl rfl 16 (by decide) (hB _ bg196) (fun _ h9 => h9) rfl dX7_put_21 ?_
  refine lv_aload_n hx hb dX7_put_24 rfl (lv_at hl 0 rfl) ?_
  refine va_get (D := (dC, dI)) (ci := 7) (v := .int 2) (C := RX7) (T := TX7) (N := 55) hx hb hB inB7 hown hK hP 0 rfl rfl 18 (by decide) (hB _ bg238) (fun _ h9 => h9) rfl dX7_put_25 ?_
  refine lv_iload_n hx hb dX7_put_28 rfl (lv_at hl 3 rfl) ?_
  refine va_iast hx hb hK hP hD hS 3 2 rfl rfl (i := 2) (x := a) (by rw [vp_in_iff]; decide) dX7_put_29 (fun H locs hP hD hS => ?_)
  obtain ⟨f3, ef3⟩ : ∃ z, z = upd f3 (2 : Int32).toNatClampNeg a := ⟨_, rfl⟩
  rw [← ef3] at hP hD
  have hP : va_P (dC, dI) vwCl [(h0, .inr (7, MO rf 0 0 2 0 0)), (rf 14, .inl (c1, 400, .inl f1)), (rf 15, .inl (c2, 400, .inl f2)), (rf 16, .inl (c3, 400, .inl f3)), (rf 17, .inl (c4, 400, .inl f4))] H := hP
  have hD : va_D A [(h0, .inr (7, MO rf 0 0 2 0 0)), (rf 14, .inl (c1, 400, .inl f1)), (rf 15, .inl (c2, 400, .inl f2)), (rf 16, .inl (c3, 400, .inl f3)), (rf 17, .inl (c4, 400, .inl f4))] := hD
  refine lv_aload_n hx hb dX7_put_30 rfl (lv_at hl 0 rfl) ?_
  refine va_get (D := (dC, dI)) (ci := 7) (v := .ref (rf 17)) (C := RX7) (T := TX7) (N := 55) hx hb hB inB7 hown hK hP 0 rfl rfl 17 (by decide) (hB _ bg197) (fun _ h9 => h9) rfl dX7_put_31 ?_
  refine lv_aload_n hx hb dX7_put_34 rfl (lv_at hl 0 rfl) ?_
  refine va_get (D := (dC, dI)) (ci := 7) (v := .int 2) (C := RX7) (T := TX7) (N := 55) hx hb hB inB7 hown hK hP 0 rfl rfl 18 (by decide) (hB _ bg238) (fun _ h9 => h9) rfl dX7_put_35 ?_
  refine lv_iload hx hb dX7_put_38 (lv_at hl 4 rfl) ?_
  refine va_iast hx hb hK hP hD hS 4 3 rfl rfl (i := 2) (x := d) (by rw [vp_in_iff]; decide) dX7_put_40 (fun H locs hP hD hS => ?_)
  obtain ⟨f4, ef4⟩ : ∃ z, z = upd f4 (2 : Int32).toNatClampNeg d := ⟨_, rfl⟩
  rw [← ef4] at hP hD
  have hP : va_P (dC, dI) vwCl [(h0, .inr (7, MO rf 0 0 2 0 0)), (rf 14, .inl (c1, 400, .inl f1)), (rf 15, .inl (c2, 400, .inl f2)), (rf 16, .inl (c3, 400, .inl f3)), (rf 17, .inl (c4, 400, .inl f4))] H := hP
  have hD : va_D A [(h0, .inr (7, MO rf 0 0 2 0 0)), (rf 14, .inl (c1, 400, .inl f1)), (rf 15, .inl (c2, 400, .inl f2)), (rf 16, .inl (c3, 400, .inl f3)), (rf 17, .inl (c4, 400, .inl f4))] := hD
  refine lv_aload_n hx hb dX7_put_41 rfl (lv_at hl 0 rfl) ?_
  refine lv_dup hx hb dX7_put_42 rfl ?_
  refine va_get (D := (dC, dI)) (ci := 7) (v := .int 2) (C := RX7) (T := TX7) (N := 55) hx hb hB inB7 hown hK hP 0 rfl rfl 18 (by decide) (hB _ bg238) (fun _ h9 => h9) rfl dX7_put_43 ?_
  refine lv_iconst (v := 1) hx hb dX7_put_46 (by decide) ?_
  refine lv_iadd hx hb dX7_put_47 ?_
  rw [show (2 : Int32) + 1 = 3 by decide]
  refine va_put (D := (dC, dI)) (ci := 7) (v := .int 3) (ty := .int) (C := RX7) (T := TX7) (N := 55) hx hb hB inB7 tyX7 tyX7_ok nmX7 hown hK hP hD hS 0 rfl rfl 18 (by decide) (hB _ bg238) (fun _ h9 => h9) rfl (by decide +kernel) rfl rfl (Nat.le_of_ble_eq_true rfl) dX7_put_48 (fun H locs hP hD hS => ?_)
  have hP : va_P (dC, dI) vwCl [(h0, .inr (7, MO rf 0 0 3 0 0)), (rf 14, .inl (c1, 400, .inl f1)), (rf 15, .inl (c2, 400, .inl f2)), (rf 16, .inl (c3, 400, .inl f3)), (rf 17, .inl (c4, 400, .inl f4))] H := hP
  have hD : va_D A [(h0, .inr (7, MO rf 0 0 3 0 0)), (rf 14, .inl (c1, 400, .inl f1)), (rf 15, .inl (c2, 400, .inl f2)), (rf 16, .inl (c3, 400, .inl f3)), (rf 17, .inl (c4, 400, .inl f4))] := hD
  have hP9 := hP.sub (ws' := [(h0, .inr (7, MO rf 0 0 3 0 0)), (rf 14, .inl (c1, 400, .inl f1)), (rf 15, .inl (c2, 400, .inl f2)), (rf 16, .inl (c3, 400, .inl f3)), (rf 17, .inl (c4, 400, .inl f4))]) [0, 1, 2, 3, 4] rfl
  have hD9 := hD.sub (ws' := [(h0, .inr (7, MO rf 0 0 3 0 0)), (rf 14, .inl (c1, 400, .inl f1)), (rf 15, .inl (c2, 400, .inl f2)), (rf 16, .inl (c3, 400, .inl f3)), (rf 17, .inl (c4, 400, .inl f4))]) [0, 1, 2, 3, 4] (by decide) rfl
  have hK9 := hK.sub (tys' := [(c1, .int), (c2, .int), (c3, .int), (c4, .int)]) [0, 1, 2, 3] rfl
  refine W.widen (k := 0) (n := 0) (by decide) (by decide) ?_
  exact W.vret hx hb hr (fun t9 ht9 hW => ⟨⟨(f1, f2, f3, f4), rfl, ⟨(by rw [ef1, show (2 : Int32).toNatClampNeg = 2 by decide]; exact pk_us), (by rw [ef4, show (2 : Int32).toNatClampNeg = 2 by decide]; exact pk_us)⟩, by rw [ht9]; exact hP9, va_K.moved hW.alike hK9, hD9⟩, hS.F ht9⟩) hS.2.2 dX7_put_51
set_option maxHeartbeats 4000000 in
set_option maxRecDepth 100000 in
theorem c_mput3 (l : Launch) (dC : Nat → ClassId) (dI : Nat → Nat → Nat) (h0 : Nat) (rf : Nat → Nat) (c1 : ClassId) (c2 : ClassId) (c3 : ClassId) (c4 : ClassId) (f1 : Nat → Int32) (f2 : Nat → Int32) (f3 : Nat → Int32) (f4 : Nat → Int32) (o : Int32) (w : Int32) (a : Int32) (d : Int32) (sz : Nat) : Met l yX7_put (Cond.code yX7_put cX7_put 5 none :: BG) ({ frames := 0, cells := 0, slots := 0, locals := 0 }) (va_Pc [.ref h0, .int o, .int w, .int a, .int d] (fun U => U.heap.size = sz ∧ va_P (dC, dI) vwCl [(h0, .inr (7, MO rf 0 0 3 0 0)), (rf 14, .inl (c1, 400, .inl f1)), (rf 15, .inl (c2, 400, .inl f2)), (rf 16, .inl (c3, 400, .inl f3)), (rf 17, .inl (c4, 400, .inl f4))] U.heap ∧ va_K (dC, dI) vwCl [(c1, .int), (c2, .int), (c3, .int), (c4, .int)] U ∧ va_D (fun _ => True) [(h0, .inr (7, MO rf 0 0 3 0 0)), (rf 14, .inl (c1, 400, .inl f1)), (rf 15, .inl (c2, 400, .inl f2)), (rf 16, .inl (c3, 400, .inl f3)), (rf 17, .inl (c4, 400, .inl f4))])) (va_Qv (fun (u9 : (Nat → Int32) × (Nat → Int32) × (Nat → Int32) × (Nat → Int32)) => match u9 with | (g1, g2, g3, g4) => g1 3 = o ∧ g4 3 = d) (fun (u9 : (Nat → Int32) × (Nat → Int32) × (Nat → Int32) × (Nat → Int32)) (t9 : State) => match u9 with | (g1, g2, g3, g4) => va_P (dC, dI) vwCl [(h0, .inr (7, MO rf 0 0 4 0 0)), (rf 14, .inl (c1, 400, .inl g1)), (rf 15, .inl (c2, 400, .inl g2)), (rf 16, .inl (c3, 400, .inl g3)), (rf 17, .inl (c4, 400, .inl g4))] t9.heap ∧ va_K (dC, dI) vwCl [(c1, .int), (c2, .int), (c3, .int), (c4, .int)] t9 ∧ va_D (va_A [(h0, .inr (7, MO rf 0 0 3 0 0)), (rf 14, .inl (c1, 400, .inl f1)), (rf 15, .inl (c2, 400, .inl f2)), (rf 16, .inl (c3, 400, .inl f3)), (rf 17, .inl (c4, 400, .inl f4))] sz) [(h0, .inr (7, MO rf 0 0 4 0 0)), (rf 14, .inl (c1, 400, .inl g1)), (rf 15, .inl (c2, 400, .inl g2)), (rf 16, .inl (c3, 400, .inl g3)), (rf 17, .inl (c4, 400, .inl g4))]) (va_A [(h0, .inr (7, MO rf 0 0 3 0 0)), (rf 14, .inl (c1, 400, .inl f1)), (rf 15, .inl (c2, 400, .inl f2)), (rf 16, .inl (c3, 400, .inl f3)), (rf 17, .inl (c4, 400, .inl f4))] sz)) 0 0 (va_A [(h0, .inr (7, MO rf 0 0 3 0 0)), (rf 14, .inl (c1, 400, .inl f1)), (rf 15, .inl (c2, 400, .inl f2)), (rf 16, .inl (c3, 400, .inl f3)), (rf 17, .inl (c4, 400, .inl f4))] sz) := by
  refine Met.ofW (cc := cX7_put) (maxL := 5) (ret := none) (by decide) rfl ?_
  intro p e s m args below meth c s₁ B hml hv
  obtain ⟨rfl, hsz, hP, hK, hD0⟩ := hv
  have hx := B.exec
  have hb := B.bytes
  have hr := B.returns
  have hts := atoms_spec (ws := Cond.code yX7_put cX7_put 5 none :: BG) B.pre
  have hB : ∀ w ∈ BG, w.before _ s = true := fun w h => hts w (List.mem_cons_of_mem _ h)
  have hown : s.vm.findClass RX7 = some m.cls := findClass_of_methodNamed B.named
  have hlocks := B.notSynchronized
  subst hsz
  have hD := hD0.self (sz := s.heap.size)
  generalize hAe : va_A [(h0, .inr (7, MO rf 0 0 3 0 0)), (rf 14, .inl (c1, 400, .inl f1)), (rf 15, .inl (c2, 400, .inl f2)), (rf 16, .inl (c3, 400, .inl f3)), (rf 17, .inl (c4, 400, .inl f4))] s.heap.size = A at hD ⊢
  have hA : ∀ q : Nat, s.heap.size ≤ q → A q := fun q h => by rw [← hAe]; exact Or.inr h
  have hS : va_S A s.heap s.heap [] := va_S.rf
  have hP : va_P (dC, dI) vwCl [(h0, .inr (7, MO rf 0 0 3 0 0)), (rf 14, .inl (c1, 400, .inl f1)), (rf 15, .inl (c2, 400, .inl f2)), (rf 16, .inl (c3, 400, .inl f3)), (rf 17, .inl (c4, 400, .inl f4))] s.heap := hP
  have hl := lv_entry ([.ref h0, .int o, .int w, .int a, .int d]) (n := 5) (Nat.le_of_ble_eq_true rfl)
  rw [lg_entry_eq]
  generalize (lg_sl ([.ref h0, .int o, .int w, .int a, .int d]) ++ List.replicate (5 - (lg_sl ([.ref h0, .int o, .int w, .int a, .int d])).length) Slot.unset).toArray = ls at hl ⊢
  have hl : lv_has ls 5 [(0, .ref h0), (1, .int o), (2, .int w), (3, .int a), (4, .int d)] := hl
  refine lv_aload_n hx hb dX7_put_0 rfl (lv_at hl 0 rfl) ?_
  refine va_get (D := (dC, dI)) (ci := 7) (v := .ref (rf 14)) (C := RX7) (T := TX7) (N := 55) hx hb hB inB7 hown hK hP 0 rfl rfl 14 (by decide) (hB _ bg194) (fun _ h9 => h9) rfl dX7_put_1 ?_
  refine lv_aload_n hx hb dX7_put_4 rfl (lv_at hl 0 rfl) ?_
  refine va_get (D := (dC, dI)) (ci := 7) (v := .int 3) (C := RX7) (T := TX7) (N := 55) hx hb hB inB7 hown hK hP 0 rfl rfl 18 (by decide) (hB _ bg238) (fun _ h9 => h9) rfl dX7_put_5 ?_
  refine lv_iload_n hx hb dX7_put_8 rfl (lv_at hl 1 rfl) ?_
  refine va_iast hx hb hK hP hD hS 1 0 rfl rfl (i := 3) (x := o) (by rw [vp_in_iff]; decide) dX7_put_9 (fun H locs hP hD hS => ?_)
  obtain ⟨f1, ef1⟩ : ∃ z, z = upd f1 (3 : Int32).toNatClampNeg o := ⟨_, rfl⟩
  rw [← ef1] at hP hD
  have hP : va_P (dC, dI) vwCl [(h0, .inr (7, MO rf 0 0 3 0 0)), (rf 14, .inl (c1, 400, .inl f1)), (rf 15, .inl (c2, 400, .inl f2)), (rf 16, .inl (c3, 400, .inl f3)), (rf 17, .inl (c4, 400, .inl f4))] H := hP
  have hD : va_D A [(h0, .inr (7, MO rf 0 0 3 0 0)), (rf 14, .inl (c1, 400, .inl f1)), (rf 15, .inl (c2, 400, .inl f2)), (rf 16, .inl (c3, 400, .inl f3)), (rf 17, .inl (c4, 400, .inl f4))] := hD
  refine lv_aload_n hx hb dX7_put_10 rfl (lv_at hl 0 rfl) ?_
  refine va_get (D := (dC, dI)) (ci := 7) (v := .ref (rf 15)) (C := RX7) (T := TX7) (N := 55) hx hb hB inB7 hown hK hP 0 rfl rfl 15 (by decide) (hB _ bg195) (fun _ h9 => h9) rfl dX7_put_11 ?_
  refine lv_aload_n hx hb dX7_put_14 rfl (lv_at hl 0 rfl) ?_
  refine va_get (D := (dC, dI)) (ci := 7) (v := .int 3) (C := RX7) (T := TX7) (N := 55) hx hb hB inB7 hown hK hP 0 rfl rfl 18 (by decide) (hB _ bg238) (fun _ h9 => h9) rfl dX7_put_15 ?_
  refine lv_iload_n hx hb dX7_put_18 rfl (lv_at hl 2 rfl) ?_
  refine va_iast hx hb hK hP hD hS 2 1 rfl rfl (i := 3) (x := w) (by rw [vp_in_iff]; decide) dX7_put_19 (fun H locs hP hD hS => ?_)
  obtain ⟨f2, ef2⟩ : ∃ z, z = upd f2 (3 : Int32).toNatClampNeg w := ⟨_, rfl⟩
  rw [← ef2] at hP hD
  have hP : va_P (dC, dI) vwCl [(h0, .inr (7, MO rf 0 0 3 0 0)), (rf 14, .inl (c1, 400, .inl f1)), (rf 15, .inl (c2, 400, .inl f2)), (rf 16, .inl (c3, 400, .inl f3)), (rf 17, .inl (c4, 400, .inl f4))] H := hP
  have hD : va_D A [(h0, .inr (7, MO rf 0 0 3 0 0)), (rf 14, .inl (c1, 400, .inl f1)), (rf 15, .inl (c2, 400, .inl f2)), (rf 16, .inl (c3, 400, .inl f3)), (rf 17, .inl (c4, 400, .inl f4))] := hD
  refine lv_aload_n hx hb dX7_put_20 rfl (lv_at hl 0 rfl) ?_
  refine va_get (D := (dC, dI)) (ci := 7) (v := .ref (rf 16)) (C := RX7) (T := TX7) (N := 55) hx hb hB inB7 hown hK hP 0 rfl rfl 16 (by decide) (hB _ bg196) (fun _ h9 => h9) rfl dX7_put_21 ?_
  refine lv_aload_n hx hb dX7_put_24 rfl (lv_at hl 0 rfl) ?_
  refine va_get (D := (dC, dI)) (ci := 7) (v := .int 3) (C := RX7) (T := TX7) (N := 55) hx hb hB inB7 hown hK hP 0 rfl rfl 18 (by decide) (hB _ bg238) (fun _ h9 => h9) rfl dX7_put_25 ?_
  refine lv_iload_n hx hb dX7_put_28 rfl (lv_at hl 3 rfl) ?_
  refine va_iast hx hb hK hP hD hS 3 2 rfl rfl (i := 3) (x := a) (by rw [vp_in_iff]; decide) dX7_put_29 (fun H locs hP hD hS => ?_)
  obtain ⟨f3, ef3⟩ : ∃ z, z = upd f3 (3 : Int32).toNatClampNeg a := ⟨_, rfl⟩
  rw [← ef3] at hP hD
  have hP : va_P (dC, dI) vwCl [(h0, .inr (7, MO rf 0 0 3 0 0)), (rf 14, .inl (c1, 400, .inl f1)), (rf 15, .inl (c2, 400, .inl f2)), (rf 16, .inl (c3, 400, .inl f3)), (rf 17, .inl (c4, 400, .inl f4))] H := hP
  have hD : va_D A [(h0, .inr (7, MO rf 0 0 3 0 0)), (rf 14, .inl (c1, 400, .inl f1)), (rf 15, .inl (c2, 400, .inl f2)), (rf 16, .inl (c3, 400, .inl f3)), (rf 17, .inl (c4, 400, .inl f4))] := hD
  refine lv_aload_n hx hb dX7_put_30 rfl (lv_at hl 0 rfl) ?_
  refine va_get (D := (dC, dI)) (ci := 7) (v := .ref (rf 17)) (C := RX7) (T := TX7) (N := 55) hx hb hB inB7 hown hK hP 0 rfl rfl 17 (by decide) (hB _ bg197) (fun _ h9 => h9) rfl dX7_put_31 ?_
  refine lv_aload_n hx hb dX7_put_34 rfl (lv_at hl 0 rfl) ?_
  refine va_get (D := (dC, dI)) (ci := 7) (v := .int 3) (C := RX7) (T := TX7) (N := 55) hx hb hB inB7 hown hK hP 0 rfl rfl 18 (by decide) (hB _ bg238) (fun _ h9 => h9) rfl dX7_put_35 ?_
  refine lv_iload hx hb dX7_put_38 (lv_at hl 4 rfl) ?_
  refine va_iast hx hb hK hP hD hS 4 3 rfl rfl (i := 3) (x := d) (by rw [vp_in_iff]; decide) dX7_put_40 (fun H locs hP hD hS => ?_)
  obtain ⟨f4, ef4⟩ : ∃ z, z = upd f4 (3 : Int32).toNatClampNeg d := ⟨_, rfl⟩
  rw [← ef4] at hP hD
  have hP : va_P (dC, dI) vwCl [(h0, .inr (7, MO rf 0 0 3 0 0)), (rf 14, .inl (c1, 400, .inl f1)), (rf 15, .inl (c2, 400, .inl f2)), (rf 16, .inl (c3, 400, .inl f3)), (rf 17, .inl (c4, 400, .inl f4))] H := hP
  have hD : va_D A [(h0, .inr (7, MO rf 0 0 3 0 0)), (rf 14, .inl (c1, 400, .inl f1)), (rf 15, .inl (c2, 400, .inl f2)), (rf 16, .inl (c3, 400, .inl f3)), (rf 17, .inl (c4, 400, .inl f4))] := hD
  refine lv_aload_n hx hb dX7_put_41 rfl (lv_at hl 0 rfl) ?_
  refine lv_dup hx hb dX7_put_42 rfl ?_
  refine va_get (D := (dC, dI)) (ci := 7) (v := .int 3) (C := RX7) (T := TX7) (N := 55) hx hb hB inB7 hown hK hP 0 rfl rfl 18 (by decide) (hB _ bg238) (fun _ h9 => h9) rfl dX7_put_43 ?_
  refine lv_iconst (v := 1) hx hb dX7_put_46 (by decide) ?_
  refine lv_iadd hx hb dX7_put_47 ?_
  rw [show (3 : Int32) + 1 = 4 by decide]
  refine va_put (D := (dC, dI)) (ci := 7) (v := .int 4) (ty := .int) (C := RX7) (T := TX7) (N := 55) hx hb hB inB7 tyX7 tyX7_ok nmX7 hown hK hP hD hS 0 rfl rfl 18 (by decide) (hB _ bg238) (fun _ h9 => h9) rfl (by decide +kernel) rfl rfl (Nat.le_of_ble_eq_true rfl) dX7_put_48 (fun H locs hP hD hS => ?_)
  have hP : va_P (dC, dI) vwCl [(h0, .inr (7, MO rf 0 0 4 0 0)), (rf 14, .inl (c1, 400, .inl f1)), (rf 15, .inl (c2, 400, .inl f2)), (rf 16, .inl (c3, 400, .inl f3)), (rf 17, .inl (c4, 400, .inl f4))] H := hP
  have hD : va_D A [(h0, .inr (7, MO rf 0 0 4 0 0)), (rf 14, .inl (c1, 400, .inl f1)), (rf 15, .inl (c2, 400, .inl f2)), (rf 16, .inl (c3, 400, .inl f3)), (rf 17, .inl (c4, 400, .inl f4))] := hD
  have hP9 := hP.sub (ws' := [(h0, .inr (7, MO rf 0 0 4 0 0)), (rf 14, .inl (c1, 400, .inl f1)), (rf 15, .inl (c2, 400, .inl f2)), (rf 16, .inl (c3, 400, .inl f3)), (rf 17, .inl (c4, 400, .inl f4))]) [0, 1, 2, 3, 4] rfl
  have hD9 := hD.sub (ws' := [(h0, .inr (7, MO rf 0 0 4 0 0)), (rf 14, .inl (c1, 400, .inl f1)), (rf 15, .inl (c2, 400, .inl f2)), (rf 16, .inl (c3, 400, .inl f3)), (rf 17, .inl (c4, 400, .inl f4))]) [0, 1, 2, 3, 4] (by decide) rfl
  have hK9 := hK.sub (tys' := [(c1, .int), (c2, .int), (c3, .int), (c4, .int)]) [0, 1, 2, 3] rfl
  refine W.widen (k := 0) (n := 0) (by decide) (by decide) ?_
  exact W.vret hx hb hr (fun t9 ht9 hW => ⟨⟨(f1, f2, f3, f4), rfl, ⟨(by rw [ef1, show (3 : Int32).toNatClampNeg = 3 by decide]; exact pk_us), (by rw [ef4, show (3 : Int32).toNatClampNeg = 3 by decide]; exact pk_us)⟩, by rw [ht9]; exact hP9, va_K.moved hW.alike hK9, hD9⟩, hS.F ht9⟩) hS.2.2 dX7_put_51
set_option maxHeartbeats 4000000 in
set_option maxRecDepth 100000 in
theorem c_mput4 (l : Launch) (dC : Nat → ClassId) (dI : Nat → Nat → Nat) (h0 : Nat) (rf : Nat → Nat) (c1 : ClassId) (c2 : ClassId) (c3 : ClassId) (c4 : ClassId) (f1 : Nat → Int32) (f2 : Nat → Int32) (f3 : Nat → Int32) (f4 : Nat → Int32) (o : Int32) (w : Int32) (a : Int32) (d : Int32) (sz : Nat) : Met l yX7_put (Cond.code yX7_put cX7_put 5 none :: BG) ({ frames := 0, cells := 0, slots := 0, locals := 0 }) (va_Pc [.ref h0, .int o, .int w, .int a, .int d] (fun U => U.heap.size = sz ∧ va_P (dC, dI) vwCl [(h0, .inr (7, MO rf 0 0 4 0 0)), (rf 14, .inl (c1, 400, .inl f1)), (rf 15, .inl (c2, 400, .inl f2)), (rf 16, .inl (c3, 400, .inl f3)), (rf 17, .inl (c4, 400, .inl f4))] U.heap ∧ va_K (dC, dI) vwCl [(c1, .int), (c2, .int), (c3, .int), (c4, .int)] U ∧ va_D (fun _ => True) [(h0, .inr (7, MO rf 0 0 4 0 0)), (rf 14, .inl (c1, 400, .inl f1)), (rf 15, .inl (c2, 400, .inl f2)), (rf 16, .inl (c3, 400, .inl f3)), (rf 17, .inl (c4, 400, .inl f4))])) (va_Qv (fun (u9 : (Nat → Int32) × (Nat → Int32) × (Nat → Int32) × (Nat → Int32)) => match u9 with | (g1, g2, g3, g4) => g1 4 = o ∧ g4 4 = d) (fun (u9 : (Nat → Int32) × (Nat → Int32) × (Nat → Int32) × (Nat → Int32)) (t9 : State) => match u9 with | (g1, g2, g3, g4) => va_P (dC, dI) vwCl [(h0, .inr (7, MO rf 0 0 5 0 0)), (rf 14, .inl (c1, 400, .inl g1)), (rf 15, .inl (c2, 400, .inl g2)), (rf 16, .inl (c3, 400, .inl g3)), (rf 17, .inl (c4, 400, .inl g4))] t9.heap ∧ va_K (dC, dI) vwCl [(c1, .int), (c2, .int), (c3, .int), (c4, .int)] t9 ∧ va_D (va_A [(h0, .inr (7, MO rf 0 0 4 0 0)), (rf 14, .inl (c1, 400, .inl f1)), (rf 15, .inl (c2, 400, .inl f2)), (rf 16, .inl (c3, 400, .inl f3)), (rf 17, .inl (c4, 400, .inl f4))] sz) [(h0, .inr (7, MO rf 0 0 5 0 0)), (rf 14, .inl (c1, 400, .inl g1)), (rf 15, .inl (c2, 400, .inl g2)), (rf 16, .inl (c3, 400, .inl g3)), (rf 17, .inl (c4, 400, .inl g4))]) (va_A [(h0, .inr (7, MO rf 0 0 4 0 0)), (rf 14, .inl (c1, 400, .inl f1)), (rf 15, .inl (c2, 400, .inl f2)), (rf 16, .inl (c3, 400, .inl f3)), (rf 17, .inl (c4, 400, .inl f4))] sz)) 0 0 (va_A [(h0, .inr (7, MO rf 0 0 4 0 0)), (rf 14, .inl (c1, 400, .inl f1)), (rf 15, .inl (c2, 400, .inl f2)), (rf 16, .inl (c3, 400, .inl f3)), (rf 17, .inl (c4, 400, .inl f4))] sz) := by
  refine Met.ofW (cc := cX7_put) (maxL := 5) (ret := none) (by decide) rfl ?_
  intro p e s m args below meth c s₁ B hml hv
  obtain ⟨rfl, hsz, hP, hK, hD0⟩ := hv
  have hx := B.exec
  have hb := B.bytes
  have hr := B.returns
  have hts := atoms_spec (ws := Cond.code yX7_put cX7_put 5 none :: BG) B.pre
  have hB : ∀ w ∈ BG, w.before _ s = true := fun w h => hts w (List.mem_cons_of_mem _ h)
  have hown : s.vm.findClass RX7 = some m.cls := findClass_of_methodNamed B.named
  have hlocks := B.notSynchronized
  subst hsz
  have hD := hD0.self (sz := s.heap.size)
  generalize hAe : va_A [(h0, .inr (7, MO rf 0 0 4 0 0)), (rf 14, .inl (c1, 400, .inl f1)), (rf 15, .inl (c2, 400, .inl f2)), (rf 16, .inl (c3, 400, .inl f3)), (rf 17, .inl (c4, 400, .inl f4))] s.heap.size = A at hD ⊢
  have hA : ∀ q : Nat, s.heap.size ≤ q → A q := fun q h => by rw [← hAe]; exact Or.inr h
  have hS : va_S A s.heap s.heap [] := va_S.rf
  have hP : va_P (dC, dI) vwCl [(h0, .inr (7, MO rf 0 0 4 0 0)), (rf 14, .inl (c1, 400, .inl f1)), (rf 15, .inl (c2, 400, .inl f2)), (rf 16, .inl (c3, 400, .inl f3)), (rf 17, .inl (c4, 400, .inl f4))] s.heap := hP
  have hl := lv_entry ([.ref h0, .int o, .int w, .int a, .int d]) (n := 5) (Nat.le_of_ble_eq_true rfl)
  rw [lg_entry_eq]
  generalize (lg_sl ([.ref h0, .int o, .int w, .int a, .int d]) ++ List.replicate (5 - (lg_sl ([.ref h0, .int o, .int w, .int a, .int d])).length) Slot.unset).toArray = ls at hl ⊢
  have hl : lv_has ls 5 [(0, .ref h0), (1, .int o), (2, .int w), (3, .int a), (4, .int d)] := hl
  refine lv_aload_n hx hb dX7_put_0 rfl (lv_at hl 0 rfl) ?_
  refine va_get (D := (dC, dI)) (ci := 7) (v := .ref (rf 14)) (C := RX7) (T := TX7) (N := 55) hx hb hB inB7 hown hK hP 0 rfl rfl 14 (by decide) (hB _ bg194) (fun _ h9 => h9) rfl dX7_put_1 ?_
  refine lv_aload_n hx hb dX7_put_4 rfl (lv_at hl 0 rfl) ?_
  refine va_get (D := (dC, dI)) (ci := 7) (v := .int 4) (C := RX7) (T := TX7) (N := 55) hx hb hB inB7 hown hK hP 0 rfl rfl 18 (by decide) (hB _ bg238) (fun _ h9 => h9) rfl dX7_put_5 ?_
  refine lv_iload_n hx hb dX7_put_8 rfl (lv_at hl 1 rfl) ?_
  refine va_iast hx hb hK hP hD hS 1 0 rfl rfl (i := 4) (x := o) (by rw [vp_in_iff]; decide) dX7_put_9 (fun H locs hP hD hS => ?_)
  obtain ⟨f1, ef1⟩ : ∃ z, z = upd f1 (4 : Int32).toNatClampNeg o := ⟨_, rfl⟩
  rw [← ef1] at hP hD
  have hP : va_P (dC, dI) vwCl [(h0, .inr (7, MO rf 0 0 4 0 0)), (rf 14, .inl (c1, 400, .inl f1)), (rf 15, .inl (c2, 400, .inl f2)), (rf 16, .inl (c3, 400, .inl f3)), (rf 17, .inl (c4, 400, .inl f4))] H := hP
  have hD : va_D A [(h0, .inr (7, MO rf 0 0 4 0 0)), (rf 14, .inl (c1, 400, .inl f1)), (rf 15, .inl (c2, 400, .inl f2)), (rf 16, .inl (c3, 400, .inl f3)), (rf 17, .inl (c4, 400, .inl f4))] := hD
  refine lv_aload_n hx hb dX7_put_10 rfl (lv_at hl 0 rfl) ?_
  refine va_get (D := (dC, dI)) (ci := 7) (v := .ref (rf 15)) (C := RX7) (T := TX7) (N := 55) hx hb hB inB7 hown hK hP 0 rfl rfl 15 (by decide) (hB _ bg195) (fun _ h9 => h9) rfl dX7_put_11 ?_
  refine lv_aload_n hx hb dX7_put_14 rfl (lv_at hl 0 rfl) ?_
  refine va_get (D := (dC, dI)) (ci := 7) (v := .int 4) (C := RX7) (T := TX7) (N := 55) hx hb hB inB7 hown hK hP 0 rfl rfl 18 (by decide) (hB _ bg238) (fun _ h9 => h9) rfl dX7_put_15 ?_
  refine lv_iload_n hx hb dX7_put_18 rfl (lv_at hl 2 rfl) ?_
  refine va_iast hx hb hK hP hD hS 2 1 rfl rfl (i := 4) (x := w) (by rw [vp_in_iff]; decide) dX7_put_19 (fun H locs hP hD hS => ?_)
  obtain ⟨f2, ef2⟩ : ∃ z, z = upd f2 (4 : Int32).toNatClampNeg w := ⟨_, rfl⟩
  rw [← ef2] at hP hD
  have hP : va_P (dC, dI) vwCl [(h0, .inr (7, MO rf 0 0 4 0 0)), (rf 14, .inl (c1, 400, .inl f1)), (rf 15, .inl (c2, 400, .inl f2)), (rf 16, .inl (c3, 400, .inl f3)), (rf 17, .inl (c4, 400, .inl f4))] H := hP
  have hD : va_D A [(h0, .inr (7, MO rf 0 0 4 0 0)), (rf 14, .inl (c1, 400, .inl f1)), (rf 15, .inl (c2, 400, .inl f2)), (rf 16, .inl (c3, 400, .inl f3)), (rf 17, .inl (c4, 400, .inl f4))] := hD
  refine lv_aload_n hx hb dX7_put_20 rfl (lv_at hl 0 rfl) ?_
  refine va_get (D := (dC, dI)) (ci := 7) (v := .ref (rf 16)) (C := RX7) (T := TX7) (N := 55) hx hb hB inB7 hown hK hP 0 rfl rfl 16 (by decide) (hB _ bg196) (fun _ h9 => h9) rfl dX7_put_21 ?_
  refine lv_aload_n hx hb dX7_put_24 rfl (lv_at hl 0 rfl) ?_
  refine va_get (D := (dC, dI)) (ci := 7) (v := .int 4) (C := RX7) (T := TX7) (N := 55) hx hb hB inB7 hown hK hP 0 rfl rfl 18 (by decide) (hB _ bg238) (fun _ h9 => h9) rfl dX7_put_25 ?_
  refine lv_iload_n hx hb dX7_put_28 rfl (lv_at hl 3 rfl) ?_
  refine va_iast hx hb hK hP hD hS 3 2 rfl rfl (i := 4) (x := a) (by rw [vp_in_iff]; decide) dX7_put_29 (fun H locs hP hD hS => ?_)
  obtain ⟨f3, ef3⟩ : ∃ z, z = upd f3 (4 : Int32).toNatClampNeg a := ⟨_, rfl⟩
  rw [← ef3] at hP hD
  have hP : va_P (dC, dI) vwCl [(h0, .inr (7, MO rf 0 0 4 0 0)), (rf 14, .inl (c1, 400, .inl f1)), (rf 15, .inl (c2, 400, .inl f2)), (rf 16, .inl (c3, 400, .inl f3)), (rf 17, .inl (c4, 400, .inl f4))] H := hP
  have hD : va_D A [(h0, .inr (7, MO rf 0 0 4 0 0)), (rf 14, .inl (c1, 400, .inl f1)), (rf 15, .inl (c2, 400, .inl f2)), (rf 16, .inl (c3, 400, .inl f3)), (rf 17, .inl (c4, 400, .inl f4))] := hD
  refine lv_aload_n hx hb dX7_put_30 rfl (lv_at hl 0 rfl) ?_
  refine va_get (D := (dC, dI)) (ci := 7) (v := .ref (rf 17)) (C := RX7) (T := TX7) (N := 55) hx hb hB inB7 hown hK hP 0 rfl rfl 17 (by decide) (hB _ bg197) (fun _ h9 => h9) rfl dX7_put_31 ?_
  refine lv_aload_n hx hb dX7_put_34 rfl (lv_at hl 0 rfl) ?_
  refine va_get (D := (dC, dI)) (ci := 7) (v := .int 4) (C := RX7) (T := TX7) (N := 55) hx hb hB inB7 hown hK hP 0 rfl rfl 18 (by decide) (hB _ bg238) (fun _ h9 => h9) rfl dX7_put_35 ?_
  refine lv_iload hx hb dX7_put_38 (lv_at hl 4 rfl) ?_
  refine va_iast hx hb hK hP hD hS 4 3 rfl rfl (i := 4) (x := d) (by rw [vp_in_iff]; decide) dX7_put_40 (fun H locs hP hD hS => ?_)
  obtain ⟨f4, ef4⟩ : ∃ z, z = upd f4 (4 : Int32).toNatClampNeg d := ⟨_, rfl⟩
  rw [← ef4] at hP hD
  have hP : va_P (dC, dI) vwCl [(h0, .inr (7, MO rf 0 0 4 0 0)), (rf 14, .inl (c1, 400, .inl f1)), (rf 15, .inl (c2, 400, .inl f2)), (rf 16, .inl (c3, 400, .inl f3)), (rf 17, .inl (c4, 400, .inl f4))] H := hP
  have hD : va_D A [(h0, .inr (7, MO rf 0 0 4 0 0)), (rf 14, .inl (c1, 400, .inl f1)), (rf 15, .inl (c2, 400, .inl f2)), (rf 16, .inl (c3, 400, .inl f3)), (rf 17, .inl (c4, 400, .inl f4))] := hD
  refine lv_aload_n hx hb dX7_put_41 rfl (lv_at hl 0 rfl) ?_
  refine lv_dup hx hb dX7_put_42 rfl ?_
  refine va_get (D := (dC, dI)) (ci := 7) (v := .int 4) (C := RX7) (T := TX7) (N := 55) hx hb hB inB7 hown hK hP 0 rfl rfl 18 (by decide) (hB _ bg238) (fun _ h9 => h9) rfl dX7_put_43 ?_
  refine lv_iconst (v := 1) hx hb dX7_put_46 (by decide) ?_
  refine lv_iadd hx hb dX7_put_47 ?_
  rw [show (4 : Int32) + 1 = 5 by decide]
  refine va_put (D := (dC, dI)) (ci := 7) (v := .int 5) (ty := .int) (C := RX7) (T := TX7) (N := 55) hx hb hB inB7 tyX7 tyX7_ok nmX7 hown hK hP hD hS 0 rfl rfl 18 (by decide) (hB _ bg238) (fun _ h9 => h9) rfl (by decide +kernel) rfl rfl (Nat.le_of_ble_eq_true rfl) dX7_put_48 (fun H locs hP hD hS => ?_)
  have hP : va_P (dC, dI) vwCl [(h0, .inr (7, MO rf 0 0 5 0 0)), (rf 14, .inl (c1, 400, .inl f1)), (rf 15, .inl (c2, 400, .inl f2)), (rf 16, .inl (c3, 400, .inl f3)), (rf 17, .inl (c4, 400, .inl f4))] H := hP
  have hD : va_D A [(h0, .inr (7, MO rf 0 0 5 0 0)), (rf 14, .inl (c1, 400, .inl f1)), (rf 15, .inl (c2, 400, .inl f2)), (rf 16, .inl (c3, 400, .inl f3)), (rf 17, .inl (c4, 400, .inl f4))] := hD
  have hP9 := hP.sub (ws' := [(h0, .inr (7, MO rf 0 0 5 0 0)), (rf 14, .inl (c1, 400, .inl f1)), (rf 15, .inl (c2, 400, .inl f2)), (rf 16, .inl (c3, 400, .inl f3)), (rf 17, .inl (c4, 400, .inl f4))]) [0, 1, 2, 3, 4] rfl
  have hD9 := hD.sub (ws' := [(h0, .inr (7, MO rf 0 0 5 0 0)), (rf 14, .inl (c1, 400, .inl f1)), (rf 15, .inl (c2, 400, .inl f2)), (rf 16, .inl (c3, 400, .inl f3)), (rf 17, .inl (c4, 400, .inl f4))]) [0, 1, 2, 3, 4] (by decide) rfl
  have hK9 := hK.sub (tys' := [(c1, .int), (c2, .int), (c3, .int), (c4, .int)]) [0, 1, 2, 3] rfl
  refine W.widen (k := 0) (n := 0) (by decide) (by decide) ?_
  exact W.vret hx hb hr (fun t9 ht9 hW => ⟨⟨(f1, f2, f3, f4), rfl, ⟨(by rw [ef1, show (4 : Int32).toNatClampNeg = 4 by decide]; exact pk_us), (by rw [ef4, show (4 : Int32).toNatClampNeg = 4 by decide]; exact pk_us)⟩, by rw [ht9]; exact hP9, va_K.moved hW.alike hK9, hD9⟩, hS.F ht9⟩) hS.2.2 dX7_put_51
set_option maxHeartbeats 4000000 in
set_option maxRecDepth 100000 in
theorem c_mput5 (l : Launch) (dC : Nat → ClassId) (dI : Nat → Nat → Nat) (h0 : Nat) (rf : Nat → Nat) (c1 : ClassId) (c2 : ClassId) (c3 : ClassId) (c4 : ClassId) (f1 : Nat → Int32) (f2 : Nat → Int32) (f3 : Nat → Int32) (f4 : Nat → Int32) (o : Int32) (w : Int32) (a : Int32) (d : Int32) (sz : Nat) : Met l yX7_put (Cond.code yX7_put cX7_put 5 none :: BG) ({ frames := 0, cells := 0, slots := 0, locals := 0 }) (va_Pc [.ref h0, .int o, .int w, .int a, .int d] (fun U => U.heap.size = sz ∧ va_P (dC, dI) vwCl [(h0, .inr (7, MO rf 0 0 5 0 0)), (rf 14, .inl (c1, 400, .inl f1)), (rf 15, .inl (c2, 400, .inl f2)), (rf 16, .inl (c3, 400, .inl f3)), (rf 17, .inl (c4, 400, .inl f4))] U.heap ∧ va_K (dC, dI) vwCl [(c1, .int), (c2, .int), (c3, .int), (c4, .int)] U ∧ va_D (fun _ => True) [(h0, .inr (7, MO rf 0 0 5 0 0)), (rf 14, .inl (c1, 400, .inl f1)), (rf 15, .inl (c2, 400, .inl f2)), (rf 16, .inl (c3, 400, .inl f3)), (rf 17, .inl (c4, 400, .inl f4))])) (va_Qv (fun (u9 : (Nat → Int32) × (Nat → Int32) × (Nat → Int32) × (Nat → Int32)) => match u9 with | (g1, g2, g3, g4) => g1 5 = o ∧ g4 5 = d) (fun (u9 : (Nat → Int32) × (Nat → Int32) × (Nat → Int32) × (Nat → Int32)) (t9 : State) => match u9 with | (g1, g2, g3, g4) => va_P (dC, dI) vwCl [(h0, .inr (7, MO rf 0 0 6 0 0)), (rf 14, .inl (c1, 400, .inl g1)), (rf 15, .inl (c2, 400, .inl g2)), (rf 16, .inl (c3, 400, .inl g3)), (rf 17, .inl (c4, 400, .inl g4))] t9.heap ∧ va_K (dC, dI) vwCl [(c1, .int), (c2, .int), (c3, .int), (c4, .int)] t9 ∧ va_D (va_A [(h0, .inr (7, MO rf 0 0 5 0 0)), (rf 14, .inl (c1, 400, .inl f1)), (rf 15, .inl (c2, 400, .inl f2)), (rf 16, .inl (c3, 400, .inl f3)), (rf 17, .inl (c4, 400, .inl f4))] sz) [(h0, .inr (7, MO rf 0 0 6 0 0)), (rf 14, .inl (c1, 400, .inl g1)), (rf 15, .inl (c2, 400, .inl g2)), (rf 16, .inl (c3, 400, .inl g3)), (rf 17, .inl (c4, 400, .inl g4))]) (va_A [(h0, .inr (7, MO rf 0 0 5 0 0)), (rf 14, .inl (c1, 400, .inl f1)), (rf 15, .inl (c2, 400, .inl f2)), (rf 16, .inl (c3, 400, .inl f3)), (rf 17, .inl (c4, 400, .inl f4))] sz)) 0 0 (va_A [(h0, .inr (7, MO rf 0 0 5 0 0)), (rf 14, .inl (c1, 400, .inl f1)), (rf 15, .inl (c2, 400, .inl f2)), (rf 16, .inl (c3, 400, .inl f3)), (rf 17, .inl (c4, 400, .inl f4))] sz) := by
  refine Met.ofW (cc := cX7_put) (maxL := 5) (ret := none) (by decide) rfl ?_
  intro p e s m args below meth c s₁ B hml hv
  obtain ⟨rfl, hsz, hP, hK, hD0⟩ := hv
  have hx := B.exec
  have hb := B.bytes
  have hr := B.returns
  have hts := atoms_spec (ws := Cond.code yX7_put cX7_put 5 none :: BG) B.pre
  have hB : ∀ w ∈ BG, w.before _ s = true := fun w h => hts w (List.mem_cons_of_mem _ h)
  have hown : s.vm.findClass RX7 = some m.cls := findClass_of_methodNamed B.named
  have hlocks := B.notSynchronized
  subst hsz
  have hD := hD0.self (sz := s.heap.size)
  generalize hAe : va_A [(h0, .inr (7, MO rf 0 0 5 0 0)), (rf 14, .inl (c1, 400, .inl f1)), (rf 15, .inl (c2, 400, .inl f2)), (rf 16, .inl (c3, 400, .inl f3)), (rf 17, .inl (c4, 400, .inl f4))] s.heap.size = A at hD ⊢
  have hA : ∀ q : Nat, s.heap.size ≤ q → A q := fun q h => by rw [← hAe]; exact Or.inr h
  have hS : va_S A s.heap s.heap [] := va_S.rf
  have hP : va_P (dC, dI) vwCl [(h0, .inr (7, MO rf 0 0 5 0 0)), (rf 14, .inl (c1, 400, .inl f1)), (rf 15, .inl (c2, 400, .inl f2)), (rf 16, .inl (c3, 400, .inl f3)), (rf 17, .inl (c4, 400, .inl f4))] s.heap := hP
  have hl := lv_entry ([.ref h0, .int o, .int w, .int a, .int d]) (n := 5) (Nat.le_of_ble_eq_true rfl)
  rw [lg_entry_eq]
  generalize (lg_sl ([.ref h0, .int o, .int w, .int a, .int d]) ++ List.replicate (5 - (lg_sl ([.ref h0, .int o, .int w, .int a, .int d])).length) Slot.unset).toArray = ls at hl ⊢
  have hl : lv_has ls 5 [(0, .ref h0), (1, .int o), (2, .int w), (3, .int a), (4, .int d)] := hl
  refine lv_aload_n hx hb dX7_put_0 rfl (lv_at hl 0 rfl) ?_
  refine va_get (D := (dC, dI)) (ci := 7) (v := .ref (rf 14)) (C := RX7) (T := TX7) (N := 55) hx hb hB inB7 hown hK hP 0 rfl rfl 14 (by decide) (hB _ bg194) (fun _ h9 => h9) rfl dX7_put_1 ?_
  refine lv_aload_n hx hb dX7_put_4 rfl (lv_at hl 0 rfl) ?_
  refine va_get (D := (dC, dI)) (ci := 7) (v := .int 5) (C := RX7) (T := TX7) (N := 55) hx hb hB inB7 hown hK hP 0 rfl rfl 18 (by decide) (hB _ bg238) (fun _ h9 => h9) rfl dX7_put_5 ?_
  refine lv_iload_n hx hb dX7_put_8 rfl (lv_at hl 1 rfl) ?_
  refine va_iast hx hb hK hP hD hS 1 0 rfl rfl (i := 5) (x := o) (by rw [vp_in_iff]; decide) dX7_put_9 (fun H locs hP hD hS => ?_)
  obtain ⟨f1, ef1⟩ : ∃ z, z = upd f1 (5 : Int32).toNatClampNeg o := ⟨_, rfl⟩
  rw [← ef1] at hP hD
  have hP : va_P (dC, dI) vwCl [(h0, .inr (7, MO rf 0 0 5 0 0)), (rf 14, .inl (c1, 400, .inl f1)), (rf 15, .inl (c2, 400, .inl f2)), (rf 16, .inl (c3, 400, .inl f3)), (rf 17, .inl (c4, 400, .inl f4))] H := hP
  have hD : va_D A [(h0, .inr (7, MO rf 0 0 5 0 0)), (rf 14, .inl (c1, 400, .inl f1)), (rf 15, .inl (c2, 400, .inl f2)), (rf 16, .inl (c3, 400, .inl f3)), (rf 17, .inl (c4, 400, .inl f4))] := hD
  refine lv_aload_n hx hb dX7_put_10 rfl (lv_at hl 0 rfl) ?_
  refine va_get (D := (dC, dI)) (ci := 7) (v := .ref (rf 15)) (C := RX7) (T := TX7) (N := 55) hx hb hB inB7 hown hK hP 0 rfl rfl 15 (by decide) (hB _ bg195) (fun _ h9 => h9) rfl dX7_put_11 ?_
  refine lv_aload_n hx hb dX7_put_14 rfl (lv_at hl 0 rfl) ?_
  refine va_get (D := (dC, dI)) (ci := 7) (v := .int 5) (C := RX7) (T := TX7) (N := 55) hx hb hB inB7 hown hK hP 0 rfl rfl 18 (by decide) (hB _ bg238) (fun _ h9 => h9) rfl dX7_put_15 ?_
  refine lv_iload_n hx hb dX7_put_18 rfl (lv_at hl 2 rfl) ?_
  refine va_iast hx hb hK hP hD hS 2 1 rfl rfl (i := 5) (x := w) (by rw [vp_in_iff]; decide) dX7_put_19 (fun H locs hP hD hS => ?_)
  obtain ⟨f2, ef2⟩ : ∃ z, z = upd f2 (5 : Int32).toNatClampNeg w := ⟨_, rfl⟩
  rw [← ef2] at hP hD
  have hP : va_P (dC, dI) vwCl [(h0, .inr (7, MO rf 0 0 5 0 0)), (rf 14, .inl (c1, 400, .inl f1)), (rf 15, .inl (c2, 400, .inl f2)), (rf 16, .inl (c3, 400, .inl f3)), (rf 17, .inl (c4, 400, .inl f4))] H := hP
  have hD : va_D A [(h0, .inr (7, MO rf 0 0 5 0 0)), (rf 14, .inl (c1, 400, .inl f1)), (rf 15, .inl (c2, 400, .inl f2)), (rf 16, .inl (c3, 400, .inl f3)), (rf 17, .inl (c4, 400, .inl f4))] := hD
  refine lv_aload_n hx hb dX7_put_20 rfl (lv_at hl 0 rfl) ?_
  refine va_get (D := (dC, dI)) (ci := 7) (v := .ref (rf 16)) (C := RX7) (T := TX7) (N := 55) hx hb hB inB7 hown hK hP 0 rfl rfl 16 (by decide) (hB _ bg196) (fun _ h9 => h9) rfl dX7_put_21 ?_
  refine lv_aload_n hx hb dX7_put_24 rfl (lv_at hl 0 rfl) ?_
  refine va_get (D := (dC, dI)) (ci := 7) (v := .int 5) (C := RX7) (T := TX7) (N := 55) hx hb hB inB7 hown hK hP 0 rfl rfl 18 (by decide) (hB _ bg238) (fun _ h9 => h9) rfl dX7_put_25 ?_
  refine lv_iload_n hx hb dX7_put_28 rfl (lv_at hl 3 rfl) ?_
  refine va_iast hx hb hK hP hD hS 3 2 rfl rfl (i := 5) (x := a) (by rw [vp_in_iff]; decide) dX7_put_29 (fun H locs hP hD hS => ?_)
  obtain ⟨f3, ef3⟩ : ∃ z, z = upd f3 (5 : Int32).toNatClampNeg a := ⟨_, rfl⟩
  rw [← ef3] at hP hD
  have hP : va_P (dC, dI) vwCl [(h0, .inr (7, MO rf 0 0 5 0 0)), (rf 14, .inl (c1, 400, .inl f1)), (rf 15, .inl (c2, 400, .inl f2)), (rf 16, .inl (c3, 400, .inl f3)), (rf 17, .inl (c4, 400, .inl f4))] H := hP
  have hD : va_D A [(h0, .inr (7, MO rf 0 0 5 0 0)), (rf 14, .inl (c1, 400, .inl f1)), (rf 15, .inl (c2, 400, .inl f2)), (rf 16, .inl (c3, 400, .inl f3)), (rf 17, .inl (c4, 400, .inl f4))] := hD
  refine lv_aload_n hx hb dX7_put_30 rfl (lv_at hl 0 rfl) ?_
  refine va_get (D := (dC, dI)) (ci := 7) (v := .ref (rf 17)) (C := RX7) (T := TX7) (N := 55) hx hb hB inB7 hown hK hP 0 rfl rfl 17 (by decide) (hB _ bg197) (fun _ h9 => h9) rfl dX7_put_31 ?_
  refine lv_aload_n hx hb dX7_put_34 rfl (lv_at hl 0 rfl) ?_
  refine va_get (D := (dC, dI)) (ci := 7) (v := .int 5) (C := RX7) (T := TX7) (N := 55) hx hb hB inB7 hown hK hP 0 rfl rfl 18 (by decide) (hB _ bg238) (fun _ h9 => h9) rfl dX7_put_35 ?_
  refine lv_iload hx hb dX7_put_38 (lv_at hl 4 rfl) ?_
  refine va_iast hx hb hK hP hD hS 4 3 rfl rfl (i := 5) (x := d) (by rw [vp_in_iff]; decide) dX7_put_40 (fun H locs hP hD hS => ?_)
  obtain ⟨f4, ef4⟩ : ∃ z, z = upd f4 (5 : Int32).toNatClampNeg d := ⟨_, rfl⟩
  rw [← ef4] at hP hD
  have hP : va_P (dC, dI) vwCl [(h0, .inr (7, MO rf 0 0 5 0 0)), (rf 14, .inl (c1, 400, .inl f1)), (rf 15, .inl (c2, 400, .inl f2)), (rf 16, .inl (c3, 400, .inl f3)), (rf 17, .inl (c4, 400, .inl f4))] H := hP
  have hD : va_D A [(h0, .inr (7, MO rf 0 0 5 0 0)), (rf 14, .inl (c1, 400, .inl f1)), (rf 15, .inl (c2, 400, .inl f2)), (rf 16, .inl (c3, 400, .inl f3)), (rf 17, .inl (c4, 400, .inl f4))] := hD
  refine lv_aload_n hx hb dX7_put_41 rfl (lv_at hl 0 rfl) ?_
  refine lv_dup hx hb dX7_put_42 rfl ?_
  refine va_get (D := (dC, dI)) (ci := 7) (v := .int 5) (C := RX7) (T := TX7) (N := 55) hx hb hB inB7 hown hK hP 0 rfl rfl 18 (by decide) (hB _ bg238) (fun _ h9 => h9) rfl dX7_put_43 ?_
  refine lv_iconst (v := 1) hx hb dX7_put_46 (by decide) ?_
  refine lv_iadd hx hb dX7_put_47 ?_
  rw [show (5 : Int32) + 1 = 6 by decide]
  refine va_put (D := (dC, dI)) (ci := 7) (v := .int 6) (ty := .int) (C := RX7) (T := TX7) (N := 55) hx hb hB inB7 tyX7 tyX7_ok nmX7 hown hK hP hD hS 0 rfl rfl 18 (by decide) (hB _ bg238) (fun _ h9 => h9) rfl (by decide +kernel) rfl rfl (Nat.le_of_ble_eq_true rfl) dX7_put_48 (fun H locs hP hD hS => ?_)
  have hP : va_P (dC, dI) vwCl [(h0, .inr (7, MO rf 0 0 6 0 0)), (rf 14, .inl (c1, 400, .inl f1)), (rf 15, .inl (c2, 400, .inl f2)), (rf 16, .inl (c3, 400, .inl f3)), (rf 17, .inl (c4, 400, .inl f4))] H := hP
  have hD : va_D A [(h0, .inr (7, MO rf 0 0 6 0 0)), (rf 14, .inl (c1, 400, .inl f1)), (rf 15, .inl (c2, 400, .inl f2)), (rf 16, .inl (c3, 400, .inl f3)), (rf 17, .inl (c4, 400, .inl f4))] := hD
  have hP9 := hP.sub (ws' := [(h0, .inr (7, MO rf 0 0 6 0 0)), (rf 14, .inl (c1, 400, .inl f1)), (rf 15, .inl (c2, 400, .inl f2)), (rf 16, .inl (c3, 400, .inl f3)), (rf 17, .inl (c4, 400, .inl f4))]) [0, 1, 2, 3, 4] rfl
  have hD9 := hD.sub (ws' := [(h0, .inr (7, MO rf 0 0 6 0 0)), (rf 14, .inl (c1, 400, .inl f1)), (rf 15, .inl (c2, 400, .inl f2)), (rf 16, .inl (c3, 400, .inl f3)), (rf 17, .inl (c4, 400, .inl f4))]) [0, 1, 2, 3, 4] (by decide) rfl
  have hK9 := hK.sub (tys' := [(c1, .int), (c2, .int), (c3, .int), (c4, .int)]) [0, 1, 2, 3] rfl
  refine W.widen (k := 0) (n := 0) (by decide) (by decide) ?_
  exact W.vret hx hb hr (fun t9 ht9 hW => ⟨⟨(f1, f2, f3, f4), rfl, ⟨(by rw [ef1, show (5 : Int32).toNatClampNeg = 5 by decide]; exact pk_us), (by rw [ef4, show (5 : Int32).toNatClampNeg = 5 by decide]; exact pk_us)⟩, by rw [ht9]; exact hP9, va_K.moved hW.alike hK9, hD9⟩, hS.F ht9⟩) hS.2.2 dX7_put_51
set_option maxHeartbeats 4000000 in
set_option maxRecDepth 100000 in
theorem c_mlook (l : Launch) (dC : Nat → ClassId) (dI : Nat → Nat → Nat) (h0 : Nat) (rf : Nat → Nat) (ords : Int32) (sz : Nat) : Met l yX7_look (Cond.code yX7_look cX7_look 1 (some .int) :: BG) ({ frames := 0, cells := 0, slots := 0, locals := 0 }) (va_Pc [.ref h0] (fun U => U.heap.size = sz ∧ va_P (dC, dI) vwCl [(h0, .inr (7, MO rf 0 0 ords 0 0))] U.heap ∧ va_K (dC, dI) vwCl [] U ∧ va_D (fun _ => True) [(h0, .inr (7, MO rf 0 0 ords 0 0))])) (va_Qi (fun (r9 : Int32) (u9 : Unit) => r9 = (-1)) (fun (_u : Unit) (t9 : State) => va_P (dC, dI) vwCl [(h0, .inr (7, MO rf 0 0 ords 0 0))] t9.heap ∧ va_K (dC, dI) vwCl [] t9 ∧ va_D (va_A [(h0, .inr (7, MO rf 0 0 ords 0 0))] sz) [(h0, .inr (7, MO rf 0 0 ords 0 0))]) (va_A [(h0, .inr (7, MO rf 0 0 ords 0 0))] sz)) 0 0 (va_A [(h0, .inr (7, MO rf 0 0 ords 0 0))] sz) := by
  refine Met.ofW (cc := cX7_look) (maxL := 1) (ret := (some .int)) (by decide) rfl ?_
  intro p e s m args below meth c s₁ B hml hv
  obtain ⟨rfl, hsz, hP, hK, hD0⟩ := hv
  have hx := B.exec
  have hb := B.bytes
  have hr := B.returns
  have hts := atoms_spec (ws := Cond.code yX7_look cX7_look 1 (some .int) :: BG) B.pre
  have hB : ∀ w ∈ BG, w.before _ s = true := fun w h => hts w (List.mem_cons_of_mem _ h)
  have hown : s.vm.findClass RX7 = some m.cls := findClass_of_methodNamed B.named
  have hlocks := B.notSynchronized
  subst hsz
  have hD := hD0.self (sz := s.heap.size)
  generalize hAe : va_A [(h0, .inr (7, MO rf 0 0 ords 0 0))] s.heap.size = A at hD ⊢
  have hA : ∀ q : Nat, s.heap.size ≤ q → A q := fun q h => by rw [← hAe]; exact Or.inr h
  have hS : va_S A s.heap s.heap [] := va_S.rf
  have hP : va_P (dC, dI) vwCl [(h0, .inr (7, MO rf 0 0 ords 0 0))] s.heap := hP
  have hl := lv_entry ([.ref h0]) (n := 1) (Nat.le_of_ble_eq_true rfl)
  rw [lg_entry_eq]
  generalize (lg_sl ([.ref h0]) ++ List.replicate (1 - (lg_sl ([.ref h0])).length) Slot.unset).toArray = ls at hl ⊢
  have hl : lv_has ls 1 [(0, .ref h0)] := hl
  refine lv_aload_n hx hb dX7_look_0 rfl (lv_at hl 0 rfl) ?_
  refine va_get (D := (dC, dI)) (ci := 7) (v := .int 0) (C := RX7) (T := TX7) (N := 55) hx hb hB inB7 hown hK hP 0 rfl rfl 21 (by decide) (hB _ bg239) (fun _ h9 => h9) rfl dX7_look_1 ?_
  refine lv_aload_n hx hb dX7_look_4 rfl (lv_at hl 0 rfl) ?_
  refine va_get (D := (dC, dI)) (ci := 7) (v := .int 0) (C := RX7) (T := TX7) (N := 55) hx hb hB inB7 hown hK hP 0 rfl rfl 3 (by decide) (hB _ bg230) (fun _ h9 => h9) rfl dX7_look_5 ?_
  refine lv_icmp_ge (tgt := 23) hx hb dX7_look_8 (by decide) (fun _ => ?_) (fun c9 => absurd c9 (by decide))
  refine lv_iconst (v := -1) hx hb dX7_look_23 (by decide) ?_
  have hP9 := hP.sub (ws' := [(h0, .inr (7, MO rf 0 0 ords 0 0))]) [0] rfl
  have hD9 := hD.sub (ws' := [(h0, .inr (7, MO rf 0 0 ords 0 0))]) [0] (by decide) rfl
  have hK9 := hK.sub (tys' := []) [] rfl
  refine W.widen (k := 0) (n := 0) (by decide) (by decide) ?_
  exact W.iret (v := (-1)) hx hb hr (fun t9 ht9 hW => ⟨⟨(-1), (), rfl, rfl, by rw [ht9]; exact hP9, va_K.moved hW.alike hK9, hD9⟩, hS.F ht9⟩) hS.2.2 dX7_look_24
set_option maxHeartbeats 4000000 in
set_option maxRecDepth 100000 in
theorem c_misName (l : Launch) (dC : Nat → ClassId) (dI : Nat → Nat → Nat) (sz : Nat) : Met l yX7_isName (Cond.code yX7_isName cX7_isName 1 (some .boolean) :: BG) ({ frames := 0, cells := 0, slots := 0, locals := 0 }) (va_Pc [.int (-1)] (fun U => U.heap.size = sz ∧ va_P (dC, dI) vwCl [] U.heap ∧ va_K (dC, dI) vwCl [] U ∧ va_D (fun _ => True) [])) (va_Qi (fun (r9 : Int32) (u9 : Unit) => r9 = 0) (fun (_u : Unit) (t9 : State) => va_P (dC, dI) vwCl [] t9.heap ∧ va_K (dC, dI) vwCl [] t9 ∧ va_D (va_A [] sz) []) (va_A [] sz)) 0 0 (va_A [] sz) := by
  refine Met.ofW (cc := cX7_isName) (maxL := 1) (ret := (some .boolean)) (by decide) rfl ?_
  intro p e s m args below meth c s₁ B hml hv
  obtain ⟨rfl, hsz, hP, hK, hD0⟩ := hv
  have hx := B.exec
  have hb := B.bytes
  have hr := B.returns
  have hts := atoms_spec (ws := Cond.code yX7_isName cX7_isName 1 (some .boolean) :: BG) B.pre
  have hB : ∀ w ∈ BG, w.before _ s = true := fun w h => hts w (List.mem_cons_of_mem _ h)
  have hown : s.vm.findClass RX7 = some m.cls := findClass_of_methodNamed B.named
  have hlocks := B.notSynchronized
  subst hsz
  have hD := hD0.self (sz := s.heap.size)
  generalize hAe : va_A [] s.heap.size = A at hD ⊢
  have hA : ∀ q : Nat, s.heap.size ≤ q → A q := fun q h => by rw [← hAe]; exact Or.inr h
  have hS : va_S A s.heap s.heap [] := va_S.rf
  have hP : va_P (dC, dI) vwCl [] s.heap := hP
  have hl := lv_entry ([.int (-1)]) (n := 1) (Nat.le_of_ble_eq_true rfl)
  rw [lg_entry_eq]
  generalize (lg_sl ([.int (-1)]) ++ List.replicate (1 - (lg_sl ([.int (-1)])).length) Slot.unset).toArray = ls at hl ⊢
  have hl : lv_has ls 1 [(0, .int (-1))] := hl
  refine lv_iload_n hx hb dX7_isName_0 rfl (lv_at hl 0 rfl) ?_
  refine lv_bipush (v := 20) hx hb dX7_isName_1 (by decide) ?_
  refine lv_icmp_lt (tgt := 16) hx hb dX7_isName_3 (by decide) (fun _ => ?_) (fun c9 => absurd c9 (by decide))
  refine lv_iconst (v := 0) hx hb dX7_isName_16 (by decide) ?_
  have hP9 := hP.sub (ws' := []) [] rfl
  have hD9 := hD.sub (ws' := []) [] (by decide) rfl
  have hK9 := hK.sub (tys' := []) [] rfl
  refine W.widen (k := 0) (n := 0) (by decide) (by decide) ?_
  exact W.zret (v := 0) hx hb hr (by decide) (fun t9 ht9 hW => ⟨⟨0, (), rfl, rfl, by rw [ht9]; exact hP9, va_K.moved hW.alike hK9, hD9⟩, hS.F ht9⟩) hS.2.2 dX7_isName_17
set_option maxHeartbeats 4000000 in
set_option maxRecDepth 100000 in
theorem c_mbeginsAtom (l : Launch) (dC : Nat → ClassId) (dI : Nat → Nat → Nat) (sz : Nat) : Met l yX7_beginsAtom (Cond.code yX7_beginsAtom cX7_beginsAtom 1 (some .boolean) :: BG) ({ frames := 1, cells := 0, slots := 0, locals := 20 }) (va_Pc [.int (-1)] (fun U => U.heap.size = sz ∧ va_P (dC, dI) vwCl [] U.heap ∧ va_K (dC, dI) vwCl [] U ∧ va_D (fun _ => True) [])) (va_Qi (fun (r9 : Int32) (u9 : Unit) => r9 = 0) (fun (_u : Unit) (t9 : State) => va_P (dC, dI) vwCl [] t9.heap ∧ va_K (dC, dI) vwCl [] t9 ∧ va_D (va_A [] sz) []) (va_A [] sz)) 0 0 (va_A [] sz) := by
  refine Met.ofW (cc := cX7_beginsAtom) (maxL := 1) (ret := (some .boolean)) (by decide) rfl ?_
  intro p e s m args below meth c s₁ B hml hv
  obtain ⟨rfl, hsz, hP, hK, hD0⟩ := hv
  have hx := B.exec
  have hb := B.bytes
  have hr := B.returns
  have hts := atoms_spec (ws := Cond.code yX7_beginsAtom cX7_beginsAtom 1 (some .boolean) :: BG) B.pre
  have hB : ∀ w ∈ BG, w.before _ s = true := fun w h => hts w (List.mem_cons_of_mem _ h)
  have hown : s.vm.findClass RX7 = some m.cls := findClass_of_methodNamed B.named
  have hlocks := B.notSynchronized
  subst hsz
  have hD := hD0.self (sz := s.heap.size)
  generalize hAe : va_A [] s.heap.size = A at hD ⊢
  have hA : ∀ q : Nat, s.heap.size ≤ q → A q := fun q h => by rw [← hAe]; exact Or.inr h
  have hS : va_S A s.heap s.heap [] := va_S.rf
  have hP : va_P (dC, dI) vwCl [] s.heap := hP
  have hl := lv_entry ([.int (-1)]) (n := 1) (Nat.le_of_ble_eq_true rfl)
  rw [lg_entry_eq]
  generalize (lg_sl ([.int (-1)]) ++ List.replicate (1 - (lg_sl ([.int (-1)])).length) Slot.unset).toArray = ls at hl ⊢
  have hl : lv_has ls 1 [(0, .int (-1))] := hl
  refine lv_iload_n hx hb dX7_beginsAtom_0 rfl (lv_at hl 0 rfl) ?_
  refine lv_bipush (v := 100) hx hb dX7_beginsAtom_1 (by decide) ?_
  refine lv_icmp_ge (tgt := 29) hx hb dX7_beginsAtom_3 (by decide) (fun c9 => absurd c9 (by decide)) (fun _ => ?_)
  refine lv_iload_n hx hb dX7_beginsAtom_6 rfl (lv_at hl 0 rfl) ?_
  have hPc := hP.sub (ws' := []) [] rfl
  have hDc := hD.sub (ws' := []) [] (by decide) rfl
  have hKc := hK.sub (tys' := []) [] rfl
  have hFc := va_free (wc := []) hD hS hA [] rfl
  refine va_calli (va_runS (As := [.int (-1)]) (rest := []) ⟨hx, hb, hml, hown, hB⟩ (c_misName l dC dI s.heap.size) (cwS 1 hB (bgS bg240 bg241 bg225 bg242) rfl rfl rfl (by decide +kernel) ⟨Nat.le_of_ble_eq_true rfl, Nat.le_of_ble_eq_true rfl⟩) ⟨fun a U g mk q => by obtain ⟨q0, q1, qP, qK, qD⟩ := q; exact ⟨q0, q1, qP, va_K.moved (u := U) (U := U.calling g mk a) (Vm.Alike.refl U.vm) qK, qD⟩, fun U hU hW => ⟨rfl, by rw [hU], by rw [hU]; exact hPc, va_K.moved hW.alike hKc, hDc.weaken (fun _ _ _ _ => trivial)⟩⟩ rfl rfl hl.1 rfl (lv_room (Nat.le_of_ble_eq_true rfl)) dX7_beginsAtom_7 ⟨Nat.le_of_ble_eq_true rfl, Nat.le_of_ble_eq_true rfl⟩) hS (fun q _ h => hFc q h) hFc (fun r9 u9 t9 H1 locs ht9 hvm hw hB1 hz1 hk1 hS => ?_)
  try dsimp only at hB1 hw
  obtain ⟨hP1, hK1, hD1⟩ := hB1
  rw [ht9] at hP1
  have hK1 := va_K.moved hvm.symm hK1
  obtain rfl := hw
  obtain ⟨hP, hD⟩ := va_join (wr := []) (w1 := []) hP hD [] [] rfl rfl (by decide) (by decide) hk1 hFc hP1 hD1
  have hK := (hK.sub (tys' := []) [] rfl).app hK1
  generalize H1 = H at hP hS ⊢
  have hP : va_P (dC, dI) vwCl [] H := hP
  have hD : va_D A [] := hD
  have hK : va_K (dC, dI) vwCl [] s := hK
  refine lv_if_ne (tgt := 29) hx hb dX7_beginsAtom_10 (by decide) (fun c9 => absurd c9 (by decide)) (fun _ => ?_)
  refine lv_iload_n hx hb dX7_beginsAtom_13 rfl (lv_at hl 0 rfl) ?_
  refine lv_if_eq (tgt := 29) hx hb dX7_beginsAtom_14 (by decide) (fun c9 => absurd c9 (by decide)) (fun _ => ?_)
  refine lv_iload_n hx hb dX7_beginsAtom_17 rfl (lv_at hl 0 rfl) ?_
  refine lv_bipush (v := 9) hx hb dX7_beginsAtom_18 (by decide) ?_
  refine lv_icmp_lt (tgt := 33) hx hb dX7_beginsAtom_20 (by decide) (fun _ => ?_) (fun c9 => absurd c9 (by decide))
  refine lv_iconst (v := 0) hx hb dX7_beginsAtom_33 (by decide) ?_
  have hP9 := hP.sub (ws' := []) [] rfl
  have hD9 := hD.sub (ws' := []) [] (by decide) rfl
  have hK9 := hK.sub (tys' := []) [] rfl
  refine W.widen (k := 0) (n := 0) (by decide) (by decide) ?_
  exact W.zret (v := 0) hx hb hr (by decide) (fun t9 ht9 hW => ⟨⟨0, (), rfl, rfl, by rw [ht9]; exact hP9, va_K.moved hW.alike hK9, hD9⟩, hS.F ht9⟩) hS.2.2 dX7_beginsAtom_34
set_option maxHeartbeats 4000000 in
set_option maxRecDepth 100000 in
theorem c_mrefuse (l : Launch) (dC : Nat → ClassId) (dI : Nat → Nat → Nat) (h0 : Nat) (rf : Nat → Nat) (ords : Int32) (sz : Nat) : Met l yX7_refuse (Cond.code yX7_refuse cX7_refuse 1 (some .boolean) :: BG) ({ frames := 0, cells := 0, slots := 0, locals := 0 }) (va_Pc [.ref h0] (fun U => U.heap.size = sz ∧ va_P (dC, dI) vwCl [(h0, .inr (7, MO rf 0 0 ords 0 0))] U.heap ∧ va_K (dC, dI) vwCl [] U ∧ va_D (fun _ => True) [(h0, .inr (7, MO rf 0 0 ords 0 0))])) (va_Qi (fun (r9 : Int32) (u9 : Unit) => r9 = 0) (fun (_u : Unit) (t9 : State) => va_P (dC, dI) vwCl [(h0, .inr (7, MO rf 0 0 ords 0 1))] t9.heap ∧ va_K (dC, dI) vwCl [] t9 ∧ va_D (va_A [(h0, .inr (7, MO rf 0 0 ords 0 0))] sz) [(h0, .inr (7, MO rf 0 0 ords 0 1))]) (va_A [(h0, .inr (7, MO rf 0 0 ords 0 0))] sz)) 0 0 (va_A [(h0, .inr (7, MO rf 0 0 ords 0 0))] sz) := by
  refine Met.ofW (cc := cX7_refuse) (maxL := 1) (ret := (some .boolean)) (by decide) rfl ?_
  intro p e s m args below meth c s₁ B hml hv
  obtain ⟨rfl, hsz, hP, hK, hD0⟩ := hv
  have hx := B.exec
  have hb := B.bytes
  have hr := B.returns
  have hts := atoms_spec (ws := Cond.code yX7_refuse cX7_refuse 1 (some .boolean) :: BG) B.pre
  have hB : ∀ w ∈ BG, w.before _ s = true := fun w h => hts w (List.mem_cons_of_mem _ h)
  have hown : s.vm.findClass RX7 = some m.cls := findClass_of_methodNamed B.named
  have hlocks := B.notSynchronized
  subst hsz
  have hD := hD0.self (sz := s.heap.size)
  generalize hAe : va_A [(h0, .inr (7, MO rf 0 0 ords 0 0))] s.heap.size = A at hD ⊢
  have hA : ∀ q : Nat, s.heap.size ≤ q → A q := fun q h => by rw [← hAe]; exact Or.inr h
  have hS : va_S A s.heap s.heap [] := va_S.rf
  have hP : va_P (dC, dI) vwCl [(h0, .inr (7, MO rf 0 0 ords 0 0))] s.heap := hP
  have hl := lv_entry ([.ref h0]) (n := 1) (Nat.le_of_ble_eq_true rfl)
  rw [lg_entry_eq]
  generalize (lg_sl ([.ref h0]) ++ List.replicate (1 - (lg_sl ([.ref h0])).length) Slot.unset).toArray = ls at hl ⊢
  have hl : lv_has ls 1 [(0, .ref h0)] := hl
  refine lv_aload_n hx hb dX7_refuse_0 rfl (lv_at hl 0 rfl) ?_
  refine lv_iconst (v := 1) hx hb dX7_refuse_1 (by decide) ?_
  refine lv_aload_n hx hb dX7_refuse_2 rfl (lv_at hl 0 rfl) ?_
  refine va_get (D := (dC, dI)) (ci := 7) (v := .int 0) (C := RX7) (T := TX7) (N := 55) hx hb hB inB7 hown hK hP 0 rfl rfl 21 (by decide) (hB _ bg239) (fun _ h9 => h9) rfl dX7_refuse_3 ?_
  refine lv_iadd hx hb dX7_refuse_6 ?_
  rw [show (1 : Int32) + 0 = 1 by decide]
  refine va_put (D := (dC, dI)) (ci := 7) (v := .int 1) (ty := .int) (C := RX7) (T := TX7) (N := 55) hx hb hB inB7 tyX7 tyX7_ok nmX7 hown hK hP hD hS 0 rfl rfl 22 (by decide) (hB _ bg243) (fun _ h9 => h9) rfl (by decide +kernel) rfl rfl (Nat.le_of_ble_eq_true rfl) dX7_refuse_7 (fun H locs hP hD hS => ?_)
  have hP : va_P (dC, dI) vwCl [(h0, .inr (7, MO rf 0 0 ords 0 1))] H := hP
  have hD : va_D A [(h0, .inr (7, MO rf 0 0 ords 0 1))] := hD
  refine lv_iconst (v := 0) hx hb dX7_refuse_10 (by decide) ?_
  have hP9 := hP.sub (ws' := [(h0, .inr (7, MO rf 0 0 ords 0 1))]) [0] rfl
  have hD9 := hD.sub (ws' := [(h0, .inr (7, MO rf 0 0 ords 0 1))]) [0] (by decide) rfl
  have hK9 := hK.sub (tys' := []) [] rfl
  refine W.widen (k := 0) (n := 0) (by decide) (by decide) ?_
  exact W.zret (v := 0) hx hb hr (by decide) (fun t9 ht9 hW => ⟨⟨0, (), rfl, rfl, by rw [ht9]; exact hP9, va_K.moved hW.alike hK9, hD9⟩, hS.F ht9⟩) hS.2.2 dX7_refuse_11
set_option maxHeartbeats 4000000 in
set_option maxRecDepth 100000 in
theorem c_matom (l : Launch) (dC : Nat → ClassId) (dI : Nat → Nat → Nat) (h0 : Nat) (rf : Nat → Nat) (ords : Int32) (sz : Nat) : Met l yX7_atom (Cond.code yX7_atom cX7_atom 3 (some .boolean) :: BG) ({ frames := 2, cells := 0, slots := 0, locals := 40 }) (va_Pc [.ref h0, .int 0] (fun U => U.heap.size = sz ∧ va_P (dC, dI) vwCl [(h0, .inr (7, MO rf 0 0 ords 0 0))] U.heap ∧ va_K (dC, dI) vwCl [] U ∧ va_D (fun _ => True) [(h0, .inr (7, MO rf 0 0 ords 0 0))])) (va_Qi (fun (r9 : Int32) (u9 : Unit) => r9 = 0) (fun (_u : Unit) (t9 : State) => va_P (dC, dI) vwCl [(h0, .inr (7, MO rf 0 0 ords 0 1))] t9.heap ∧ va_K (dC, dI) vwCl [] t9 ∧ va_D (va_A [(h0, .inr (7, MO rf 0 0 ords 0 0))] sz) [(h0, .inr (7, MO rf 0 0 ords 0 1))]) (va_A [(h0, .inr (7, MO rf 0 0 ords 0 0))] sz)) 0 0 (va_A [(h0, .inr (7, MO rf 0 0 ords 0 0))] sz) := by
  refine Met.ofW (cc := cX7_atom) (maxL := 3) (ret := (some .boolean)) (by decide) rfl ?_
  intro p e s m args below meth c s₁ B hml hv
  obtain ⟨rfl, hsz, hP, hK, hD0⟩ := hv
  have hx := B.exec
  have hb := B.bytes
  have hr := B.returns
  have hts := atoms_spec (ws := Cond.code yX7_atom cX7_atom 3 (some .boolean) :: BG) B.pre
  have hB : ∀ w ∈ BG, w.before _ s = true := fun w h => hts w (List.mem_cons_of_mem _ h)
  have hown : s.vm.findClass RX7 = some m.cls := findClass_of_methodNamed B.named
  have hlocks := B.notSynchronized
  subst hsz
  have hD := hD0.self (sz := s.heap.size)
  generalize hAe : va_A [(h0, .inr (7, MO rf 0 0 ords 0 0))] s.heap.size = A at hD ⊢
  have hA : ∀ q : Nat, s.heap.size ≤ q → A q := fun q h => by rw [← hAe]; exact Or.inr h
  have hS : va_S A s.heap s.heap [] := va_S.rf
  have hP : va_P (dC, dI) vwCl [(h0, .inr (7, MO rf 0 0 ords 0 0))] s.heap := hP
  have hl := lv_entry ([.ref h0, .int 0]) (n := 3) (Nat.le_of_ble_eq_true rfl)
  rw [lg_entry_eq]
  generalize (lg_sl ([.ref h0, .int 0]) ++ List.replicate (3 - (lg_sl ([.ref h0, .int 0])).length) Slot.unset).toArray = ls at hl ⊢
  have hl : lv_has ls 3 [(0, .ref h0), (1, .int 0)] := hl
  refine lv_aload_n hx hb dX7_atom_0 rfl (lv_at hl 0 rfl) ?_
  have hPc := hP.sub (ws' := [(h0, .inr (7, MO rf 0 0 ords 0 0))]) [0] rfl
  have hDc := hD.sub (ws' := [(h0, .inr (7, MO rf 0 0 ords 0 0))]) [0] (by decide) rfl
  have hKc := hK.sub (tys' := []) [] rfl
  have hFc := va_free (wc := [(h0, .inr (7, MO rf 0 0 ords 0 0))]) hD hS hA [0] rfl
  refine va_calli (va_runV (As := []) (rest := []) ⟨hx, hb, hml, hown, hB⟩ (c_mlook l dC dI h0 rf ords s.heap.size) (cwV 0 hB (bgV bg244 bg245 bg246 bg225 bg247) rfl rfl rfl (by decide +kernel) ⟨Nat.le_of_ble_eq_true rfl, Nat.le_of_ble_eq_true rfl⟩) ⟨fun a U g mk q => by obtain ⟨q0, q1, qP, qK, qD⟩ := q; exact ⟨q0, q1, qP, va_K.moved (u := U) (U := U.calling g mk a) (Vm.Alike.refl U.vm) qK, qD⟩, va_recv hKc hPc (ci := 7) (q0 := 0) rfl rfl, fun U hU hW => ⟨rfl, by rw [hU], by rw [hU]; exact hPc, va_K.moved hW.alike hKc, hDc.weaken (fun _ _ _ _ => trivial)⟩⟩ rfl rfl hl.1 rfl (lv_room (Nat.le_of_ble_eq_true rfl)) dX7_atom_1 ⟨Nat.le_of_ble_eq_true rfl, Nat.le_of_ble_eq_true rfl⟩) hS (fun q _ h => hFc q h) hFc (fun r9 u9 t9 H1 locs ht9 hvm hw hB1 hz1 hk1 hS => ?_)
  try dsimp only at hB1 hw
  obtain ⟨hP1, hK1, hD1⟩ := hB1
  rw [ht9] at hP1
  have hK1 := va_K.moved hvm.symm hK1
  obtain rfl := hw
  obtain ⟨hP, hD⟩ := va_join (wr := []) (w1 := [(h0, .inr (7, MO rf 0 0 ords 0 0))]) hP hD [0] [] rfl rfl (by decide) (by decide) hk1 hFc hP1 hD1
  have hK := (hK.sub (tys' := []) [] rfl).app hK1
  generalize H1 = H at hP hS ⊢
  have hP : va_P (dC, dI) vwCl [(h0, .inr (7, MO rf 0 0 ords 0 0))] H := hP
  have hD : va_D A [(h0, .inr (7, MO rf 0 0 ords 0 0))] := hD
  have hK : va_K (dC, dI) vwCl [] s := hK
  refine lv_istore_n (lv' := [(2, .int (-1)), (0, .ref h0), (1, .int 0)]) hx hb dX7_atom_4 rfl hl (by decide) rfl (fun ls hl => ?_)
  refine lv_iload_n hx hb dX7_atom_5 rfl (lv_at hl 0 rfl) ?_
  have hPc := hP.sub (ws' := []) [] rfl
  have hDc := hD.sub (ws' := []) [] (by decide) rfl
  have hKc := hK.sub (tys' := []) [] rfl
  have hFc := va_free (wc := []) hD hS hA [] rfl
  refine va_calli (va_runS (As := [.int (-1)]) (rest := []) ⟨hx, hb, hml, hown, hB⟩ (c_mbeginsAtom l dC dI H.size) (cwS 1 hB (bgS bg248 bg249 bg225 bg250) rfl rfl rfl (by decide +kernel) ⟨Nat.le_of_ble_eq_true rfl, Nat.le_of_ble_eq_true rfl⟩) ⟨fun a U g mk q => by obtain ⟨q0, q1, qP, qK, qD⟩ := q; exact ⟨q0, q1, qP, va_K.moved (u := U) (U := U.calling g mk a) (Vm.Alike.refl U.vm) qK, qD⟩, fun U hU hW => ⟨rfl, by rw [hU], by rw [hU]; exact hPc, va_K.moved hW.alike hKc, hDc.weaken (fun _ _ _ _ => trivial)⟩⟩ rfl rfl hl.1 rfl (lv_room (Nat.le_of_ble_eq_true rfl)) dX7_atom_6 ⟨Nat.le_of_ble_eq_true rfl, Nat.le_of_ble_eq_true rfl⟩) hS (fun q _ h => hFc q h) hFc (fun r9 u9 t9 H1 locs ht9 hvm hw hB1 hz1 hk1 hS => ?_)
  try dsimp only at hB1 hw
  obtain ⟨hP1, hK1, hD1⟩ := hB1
  rw [ht9] at hP1
  have hK1 := va_K.moved hvm.symm hK1
  obtain rfl := hw
  obtain ⟨hP, hD⟩ := va_join (wr := [(h0, .inr (7, MO rf 0 0 ords 0 0))]) (w1 := []) hP hD [] [0] rfl rfl (by decide) (by decide) hk1 hFc hP1 hD1
  have hK := (hK.sub (tys' := []) [] rfl).app hK1
  generalize H1 = H at hP hS ⊢
  have hP : va_P (dC, dI) vwCl [(h0, .inr (7, MO rf 0 0 ords 0 0))] H := hP
  have hD : va_D A [(h0, .inr (7, MO rf 0 0 ords 0 0))] := hD
  have hK : va_K (dC, dI) vwCl [] s := hK
  refine lv_if_ne (tgt := 17) hx hb dX7_atom_9 (by decide) (fun c9 => absurd c9 (by decide)) (fun _ => ?_)
  refine lv_aload_n hx hb dX7_atom_12 rfl (lv_at hl 1 rfl) ?_
  have hPc := hP.sub (ws' := [(h0, .inr (7, MO rf 0 0 ords 0 0))]) [0] rfl
  have hDc := hD.sub (ws' := [(h0, .inr (7, MO rf 0 0 ords 0 0))]) [0] (by decide) rfl
  have hKc := hK.sub (tys' := []) [] rfl
  have hFc := va_free (wc := [(h0, .inr (7, MO rf 0 0 ords 0 0))]) hD hS hA [0] rfl
  refine va_calli (va_runV (As := []) (rest := []) ⟨hx, hb, hml, hown, hB⟩ (c_mrefuse l dC dI h0 rf ords H.size) (cwV 0 hB (bgV bg251 bg252 bg253 bg225 bg254) rfl rfl rfl (by decide +kernel) ⟨Nat.le_of_ble_eq_true rfl, Nat.le_of_ble_eq_true rfl⟩) ⟨fun a U g mk q => by obtain ⟨q0, q1, qP, qK, qD⟩ := q; exact ⟨q0, q1, qP, va_K.moved (u := U) (U := U.calling g mk a) (Vm.Alike.refl U.vm) qK, qD⟩, va_recv hKc hPc (ci := 7) (q0 := 0) rfl rfl, fun U hU hW => ⟨rfl, by rw [hU], by rw [hU]; exact hPc, va_K.moved hW.alike hKc, hDc.weaken (fun _ _ _ _ => trivial)⟩⟩ rfl rfl hl.1 rfl (lv_room (Nat.le_of_ble_eq_true rfl)) dX7_atom_13 ⟨Nat.le_of_ble_eq_true rfl, Nat.le_of_ble_eq_true rfl⟩) hS (fun q _ h => hFc q h) hFc (fun r9 u9 t9 H1 locs ht9 hvm hw hB1 hz1 hk1 hS => ?_)
  try dsimp only at hB1 hw
  obtain ⟨hP1, hK1, hD1⟩ := hB1
  rw [ht9] at hP1
  have hK1 := va_K.moved hvm.symm hK1
  obtain rfl := hw
  obtain ⟨hP, hD⟩ := va_join (wr := []) (w1 := [(h0, .inr (7, MO rf 0 0 ords 0 1))]) hP hD [0] [] rfl rfl (by decide) (by decide) hk1 hFc hP1 hD1
  have hK := (hK.sub (tys' := []) [] rfl).app hK1
  generalize H1 = H at hP hS ⊢
  have hP : va_P (dC, dI) vwCl [(h0, .inr (7, MO rf 0 0 ords 0 1))] H := hP
  have hD : va_D A [(h0, .inr (7, MO rf 0 0 ords 0 1))] := hD
  have hK : va_K (dC, dI) vwCl [] s := hK
  have hP9 := hP.sub (ws' := [(h0, .inr (7, MO rf 0 0 ords 0 1))]) [0] rfl
  have hD9 := hD.sub (ws' := [(h0, .inr (7, MO rf 0 0 ords 0 1))]) [0] (by decide) rfl
  have hK9 := hK.sub (tys' := []) [] rfl
  refine W.widen (k := 0) (n := 0) (by decide) (by decide) ?_
  exact W.zret (v := 0) hx hb hr (by decide) (fun t9 ht9 hW => ⟨⟨0, (), rfl, rfl, by rw [ht9]; exact hP9, va_K.moved hW.alike hK9, hD9⟩, hS.F ht9⟩) hS.2.2 dX7_atom_16
