set_option maxHeartbeats 4000000 in
set_option maxRecDepth 100000 in
theorem c_mread0_0 (l : Launch) (dC : Nat → ClassId) (dI : Nat → Nat → Nat) (h0 : Nat) (rf : Nat → Nat) (c1 : ClassId) (c2 : ClassId) (c3 : ClassId) (c4 : ClassId) (f1 : Nat → Int32) (f2 : Nat → Int32) (f3 : Nat → Int32) (f4 : Nat → Int32) (sz : Nat) (h1 : f1 0 = 0) (h4 : f4 0 = 0) : Met l yX7_read (Cond.code yX7_read cX7_read 5 (some .boolean) :: BG) ({ frames := 1, cells := 0, slots := 0, locals := 24 }) (va_Pc [.ref h0] (fun U => U.heap.size = sz ∧ va_P (dC, dI) vwCl [(h0, .inr (7, MO rf 0 0 1 0 0)), (rf 14, .inl (c1, 400, .inl f1)), (rf 15, .inl (c2, 400, .inl f2)), (rf 16, .inl (c3, 400, .inl f3)), (rf 17, .inl (c4, 400, .inl f4))] U.heap ∧ va_K (dC, dI) vwCl [(c1, .int), (c2, .int), (c3, .int), (c4, .int)] U ∧ va_D (fun _ => True) [(h0, .inr (7, MO rf 0 0 1 0 0)), (rf 14, .inl (c1, 400, .inl f1)), (rf 15, .inl (c2, 400, .inl f2)), (rf 16, .inl (c3, 400, .inl f3)), (rf 17, .inl (c4, 400, .inl f4))])) (va_Qi (fun (r9 : Int32) (u9 : (Nat → Int32) × (Nat → Int32) × (Nat → Int32) × (Nat → Int32)) => match u9 with | (g1, g2, g3, g4) => r9 = 1 ∧ g1 0 = 1 ∧ g4 0 = 0) (fun (u9 : (Nat → Int32) × (Nat → Int32) × (Nat → Int32) × (Nat → Int32)) (t9 : State) => match u9 with | (g1, g2, g3, g4) => va_P (dC, dI) vwCl [(h0, .inr (7, MO rf 0 0 1 0 0)), (rf 14, .inl (c1, 400, .inl g1)), (rf 15, .inl (c2, 400, .inl g2)), (rf 16, .inl (c3, 400, .inl g3)), (rf 17, .inl (c4, 400, .inl g4))] t9.heap ∧ va_K (dC, dI) vwCl [(c1, .int), (c2, .int), (c3, .int), (c4, .int)] t9 ∧ va_D (va_A [(h0, .inr (7, MO rf 0 0 1 0 0)), (rf 14, .inl (c1, 400, .inl f1)), (rf 15, .inl (c2, 400, .inl f2)), (rf 16, .inl (c3, 400, .inl f3)), (rf 17, .inl (c4, 400, .inl f4))] sz) [(h0, .inr (7, MO rf 0 0 1 0 0)), (rf 14, .inl (c1, 400, .inl g1)), (rf 15, .inl (c2, 400, .inl g2)), (rf 16, .inl (c3, 400, .inl g3)), (rf 17, .inl (c4, 400, .inl g4))]) (va_A [(h0, .inr (7, MO rf 0 0 1 0 0)), (rf 14, .inl (c1, 400, .inl f1)), (rf 15, .inl (c2, 400, .inl f2)), (rf 16, .inl (c3, 400, .inl f3)), (rf 17, .inl (c4, 400, .inl f4))] sz)) 0 0 (va_A [(h0, .inr (7, MO rf 0 0 1 0 0)), (rf 14, .inl (c1, 400, .inl f1)), (rf 15, .inl (c2, 400, .inl f2)), (rf 16, .inl (c3, 400, .inl f3)), (rf 17, .inl (c4, 400, .inl f4))] sz) := by
  refine Met.ofW (cc := cX7_read) (maxL := 5) (ret := (some .boolean)) (by decide) rfl ?_
  intro p e s m args below meth c s₁ B hml hv
  obtain ⟨rfl, hsz, hP, hK, hD0⟩ := hv
  have hx := B.exec
  have hb := B.bytes
  have hr := B.returns
  have hts := atoms_spec (ws := Cond.code yX7_read cX7_read 5 (some .boolean) :: BG) B.pre
  have hB : ∀ w ∈ BG, w.before _ s = true := fun w h => hts w (List.mem_cons_of_mem _ h)
  have hown : s.vm.findClass RX7 = some m.cls := findClass_of_methodNamed B.named
  have hlocks := B.notSynchronized
  subst hsz
  have hD := hD0.self (sz := s.heap.size)
  generalize hAe : va_A [(h0, .inr (7, MO rf 0 0 1 0 0)), (rf 14, .inl (c1, 400, .inl f1)), (rf 15, .inl (c2, 400, .inl f2)), (rf 16, .inl (c3, 400, .inl f3)), (rf 17, .inl (c4, 400, .inl f4))] s.heap.size = A at hD ⊢
  have hA : ∀ q : Nat, s.heap.size ≤ q → A q := fun q h => by rw [← hAe]; exact Or.inr h
  have hS : va_S A s.heap s.heap [] := va_S.rf
  have hP : va_P (dC, dI) vwCl [(h0, .inr (7, MO rf 0 0 1 0 0)), (rf 14, .inl (c1, 400, .inl f1)), (rf 15, .inl (c2, 400, .inl f2)), (rf 16, .inl (c3, 400, .inl f3)), (rf 17, .inl (c4, 400, .inl f4))] s.heap := hP
  have hl := lv_entry ([.ref h0]) (n := 5) (Nat.le_of_ble_eq_true rfl)
  rw [lg_entry_eq]
  generalize (lg_sl ([.ref h0]) ++ List.replicate (5 - (lg_sl ([.ref h0])).length) Slot.unset).toArray = ls at hl ⊢
  have hl : lv_has ls 5 [(0, .ref h0)] := hl
  refine lv_aload_n hx hb dX7_read_0 rfl (lv_at hl 0 rfl) ?_
  refine lv_dup hx hb dX7_read_1 rfl ?_
  refine va_get (D := (dC, dI)) (ci := 7) (v := .int 1) (C := RX7) (T := TX7) (N := 55) hx hb hB inB7 hown hK hP 0 rfl rfl 18 (by decide) (hB _ bg238) (fun _ h9 => h9) rfl dX7_read_2 ?_
  refine lv_iconst (v := 1) hx hb dX7_read_5 (by decide) ?_
  refine lv_isub hx hb dX7_read_6 ?_
  rw [show (1 : Int32) - 1 = 0 by decide]
  refine va_put (D := (dC, dI)) (ci := 7) (v := .int 0) (ty := .int) (C := RX7) (T := TX7) (N := 55) hx hb hB inB7 tyX7 tyX7_ok nmX7 hown hK hP hD hS 0 rfl rfl 18 (by decide) (hB _ bg238) (fun _ h9 => h9) rfl (by decide +kernel) rfl rfl (Nat.le_of_ble_eq_true rfl) dX7_read_7 (fun H locs hP hD hS => ?_)
  have hP : va_P (dC, dI) vwCl [(h0, .inr (7, MO rf 0 0 0 0 0)), (rf 14, .inl (c1, 400, .inl f1)), (rf 15, .inl (c2, 400, .inl f2)), (rf 16, .inl (c3, 400, .inl f3)), (rf 17, .inl (c4, 400, .inl f4))] H := hP
  have hD : va_D A [(h0, .inr (7, MO rf 0 0 0 0 0)), (rf 14, .inl (c1, 400, .inl f1)), (rf 15, .inl (c2, 400, .inl f2)), (rf 16, .inl (c3, 400, .inl f3)), (rf 17, .inl (c4, 400, .inl f4))] := hD
  refine lv_aload_n hx hb dX7_read_10 rfl (lv_at hl 0 rfl) ?_
  refine va_get (D := (dC, dI)) (ci := 7) (v := .ref (rf 14)) (C := RX7) (T := TX7) (N := 55) hx hb hB inB7 hown hK hP 0 rfl rfl 14 (by decide) (hB _ bg194) (fun _ h9 => h9) rfl dX7_read_11 ?_
  refine lv_aload_n hx hb dX7_read_14 rfl (lv_at hl 0 rfl) ?_
  refine va_get (D := (dC, dI)) (ci := 7) (v := .int 0) (C := RX7) (T := TX7) (N := 55) hx hb hB inB7 hown hK hP 0 rfl rfl 18 (by decide) (hB _ bg238) (fun _ h9 => h9) rfl dX7_read_15 ?_
  refine va_iald hx hb hK hP 1 0 rfl rfl (i := 0) (by rw [vp_in_iff]; decide) dX7_read_18 ?_
  rw [show f1 (0 : Int32).toNatClampNeg = 0 from (by rw [show (0 : Int32).toNatClampNeg = 0 by decide]; exact h1)]
  refine lv_istore_n (lv' := [(1, .int 0), (0, .ref h0)]) hx hb dX7_read_19 rfl hl (by decide) rfl (fun ls hl => ?_)
  refine lv_aload_n hx hb dX7_read_20 rfl (lv_at hl 1 rfl) ?_
  refine va_get (D := (dC, dI)) (ci := 7) (v := .ref (rf 17)) (C := RX7) (T := TX7) (N := 55) hx hb hB inB7 hown hK hP 0 rfl rfl 17 (by decide) (hB _ bg197) (fun _ h9 => h9) rfl dX7_read_21 ?_
  refine lv_aload_n hx hb dX7_read_24 rfl (lv_at hl 1 rfl) ?_
  refine va_get (D := (dC, dI)) (ci := 7) (v := .int 0) (C := RX7) (T := TX7) (N := 55) hx hb hB inB7 hown hK hP 0 rfl rfl 18 (by decide) (hB _ bg238) (fun _ h9 => h9) rfl dX7_read_25 ?_
  refine va_iald hx hb hK hP 4 3 rfl rfl (i := 0) (by rw [vp_in_iff]; decide) dX7_read_28 ?_
  rw [show f4 (0 : Int32).toNatClampNeg = 0 from (by rw [show (0 : Int32).toNatClampNeg = 0 by decide]; exact h4)]
  refine lv_istore_n (lv' := [(2, .int 0), (1, .int 0), (0, .ref h0)]) hx hb dX7_read_29 rfl hl (by decide) rfl (fun ls hl => ?_)
  refine lv_aload_n hx hb dX7_read_30 rfl (lv_at hl 2 rfl) ?_
  refine va_get (D := (dC, dI)) (ci := 7) (v := .ref (rf 15)) (C := RX7) (T := TX7) (N := 55) hx hb hB inB7 hown hK hP 0 rfl rfl 15 (by decide) (hB _ bg195) (fun _ h9 => h9) rfl dX7_read_31 ?_
  refine lv_aload_n hx hb dX7_read_34 rfl (lv_at hl 2 rfl) ?_
  refine va_get (D := (dC, dI)) (ci := 7) (v := .int 0) (C := RX7) (T := TX7) (N := 55) hx hb hB inB7 hown hK hP 0 rfl rfl 18 (by decide) (hB _ bg238) (fun _ h9 => h9) rfl dX7_read_35 ?_
  refine va_iald hx hb hK hP 2 1 rfl rfl (i := 0) (by rw [vp_in_iff]; decide) dX7_read_38 ?_
  refine lv_istore_n (lv' := [(3, .int (f2 (0 : Int32).toNatClampNeg)), (2, .int 0), (1, .int 0), (0, .ref h0)]) hx hb dX7_read_39 rfl hl (by decide) rfl (fun ls hl => ?_)
  refine lv_iload_n hx hb dX7_read_40 rfl (lv_at hl 1 rfl) ?_
  refine lv_bipush (v := 7) hx hb dX7_read_41 (by decide) ?_
  refine lv_icmp_le (tgt := 68) hx hb dX7_read_43 (by decide) (fun _ => ?_) (fun c9 => absurd c9 (by decide))
  refine lv_aload_n hx hb dX7_read_68 rfl (lv_at hl 3 rfl) ?_
  have hPc := hP.sub (ws' := [(h0, .inr (7, MO rf 0 0 0 0 0))]) [0] rfl
  have hDc := hD.sub (ws' := [(h0, .inr (7, MO rf 0 0 0 0 0))]) [0] (by decide) rfl
  have hKc := hK.sub (tys' := []) [] rfl
  have hFc := va_free (wc := [(h0, .inr (7, MO rf 0 0 0 0 0))]) hD hS hA [0] rfl
  refine va_calli (va_runV (As := []) (rest := []) ⟨hx, hb, hml, hown, hB⟩ (c_mlook l dC dI h0 rf 0 H.size) (cwV 0 hB (bgV bg244 bg245 bg246 bg225 bg247) rfl rfl rfl (by decide +kernel) ⟨Nat.le_of_ble_eq_true rfl, Nat.le_of_ble_eq_true rfl⟩) ⟨fun a U g mk q => by obtain ⟨q0, q1, qP, qK, qD⟩ := q; exact ⟨q0, q1, qP, va_K.moved (u := U) (U := U.calling g mk a) (Vm.Alike.refl U.vm) qK, qD⟩, va_recv hKc hPc (ci := 7) (q0 := 0) rfl rfl, fun U hU hW => ⟨rfl, by rw [hU], by rw [hU]; exact hPc, va_K.moved hW.alike hKc, hDc.weaken (fun _ _ _ _ => trivial)⟩⟩ rfl rfl hl.1 rfl (lv_room (Nat.le_of_ble_eq_true rfl)) dX7_read_69 ⟨Nat.le_of_ble_eq_true rfl, Nat.le_of_ble_eq_true rfl⟩) hS (fun q _ h => hFc q h) hFc (fun r9 u9 t9 H1 locs ht9 hvm hw hB1 hz1 hk1 hS => ?_)
  try dsimp only at hB1 hw
  obtain ⟨hP1, hK1, hD1⟩ := hB1
  rw [ht9] at hP1
  have hK1 := va_K.moved hvm.symm hK1
  obtain rfl := hw
  obtain ⟨hP, hD⟩ := va_join (wr := [(rf 14, .inl (c1, 400, .inl f1)), (rf 15, .inl (c2, 400, .inl f2)), (rf 16, .inl (c3, 400, .inl f3)), (rf 17, .inl (c4, 400, .inl f4))]) (w1 := [(h0, .inr (7, MO rf 0 0 0 0 0))]) hP hD [0] [1, 2, 3, 4] rfl rfl (by decide) (by decide) hk1 hFc hP1 hD1
  have hK := (hK.sub (tys' := [(c1, .int), (c2, .int), (c3, .int), (c4, .int)]) [0, 1, 2, 3] rfl).app hK1
  generalize H1 = H at hP hS ⊢
  have hP : va_P (dC, dI) vwCl [(rf 14, .inl (c1, 400, .inl f1)), (rf 15, .inl (c2, 400, .inl f2)), (rf 16, .inl (c3, 400, .inl f3)), (rf 17, .inl (c4, 400, .inl f4)), (h0, .inr (7, MO rf 0 0 0 0 0))] H := hP
  have hD : va_D A [(rf 14, .inl (c1, 400, .inl f1)), (rf 15, .inl (c2, 400, .inl f2)), (rf 16, .inl (c3, 400, .inl f3)), (rf 17, .inl (c4, 400, .inl f4)), (h0, .inr (7, MO rf 0 0 0 0 0))] := hD
  have hK : va_K (dC, dI) vwCl [(c1, .int), (c2, .int), (c3, .int), (c4, .int)] s := hK
  refine lv_istore (lv' := [(4, .int (-1)), (3, .int (f2 (0 : Int32).toNatClampNeg)), (2, .int 0), (1, .int 0), (0, .ref h0)]) hx hb dX7_read_72 hl (by decide) rfl (fun ls hl => ?_)
  refine lv_iload_n hx hb dX7_read_74 rfl (lv_at hl 3 rfl) ?_
  refine lv_if_ne (tgt := 156) hx hb dX7_read_75 (by decide) (fun c9 => absurd c9 (by decide)) (fun _ => ?_)
  refine lv_iload hx hb dX7_read_78 (lv_at hl 0 rfl) ?_
  refine lv_iconst (v := 4) hx hb dX7_read_80 (by decide) ?_
  refine lv_icmp_lt (tgt := 145) hx hb dX7_read_81 (by decide) (fun _ => ?_) (fun c9 => absurd c9 (by decide))
  refine lv_aload_n hx hb dX7_read_145 rfl (lv_at hl 4 rfl) ?_
  refine lv_iconst (v := 1) hx hb dX7_read_146 (by decide) ?_
  refine lv_iconst (v := 0) hx hb dX7_read_147 (by decide) ?_
  refine lv_iconst (v := 0) hx hb dX7_read_148 (by decide) ?_
  refine lv_iload_n hx hb dX7_read_149 rfl (lv_at hl 2 rfl) ?_
  have hPc := hP.sub (ws' := [(h0, .inr (7, MO rf 0 0 0 0 0)), (rf 14, .inl (c1, 400, .inl f1)), (rf 15, .inl (c2, 400, .inl f2)), (rf 16, .inl (c3, 400, .inl f3)), (rf 17, .inl (c4, 400, .inl f4))]) [4, 0, 1, 2, 3] rfl
  have hDc := hD.sub (ws' := [(h0, .inr (7, MO rf 0 0 0 0 0)), (rf 14, .inl (c1, 400, .inl f1)), (rf 15, .inl (c2, 400, .inl f2)), (rf 16, .inl (c3, 400, .inl f3)), (rf 17, .inl (c4, 400, .inl f4))]) [4, 0, 1, 2, 3] (by decide) rfl
  have hKc := hK.sub (tys' := [(c1, .int), (c2, .int), (c3, .int), (c4, .int)]) [0, 1, 2, 3] rfl
  have hFc := va_free (wc := [(h0, .inr (7, MO rf 0 0 0 0 0)), (rf 14, .inl (c1, 400, .inl f1)), (rf 15, .inl (c2, 400, .inl f2)), (rf 16, .inl (c3, 400, .inl f3)), (rf 17, .inl (c4, 400, .inl f4))]) hD hS hA [4, 0, 1, 2, 3] rfl
  refine va_callv (va_runV (As := [.int 1, .int 0, .int 0, .int 0]) (rest := []) ⟨hx, hb, hml, hown, hB⟩ (c_mput0 l dC dI h0 rf c1 c2 c3 c4 f1 f2 f3 f4 1 0 0 0 H.size) (cwV 4 hB (bgV bg255 bg256 bg257 bg225 bg258) rfl rfl rfl (by decide +kernel) ⟨Nat.le_of_ble_eq_true rfl, Nat.le_of_ble_eq_true rfl⟩) ⟨fun a U g mk q => by obtain ⟨q0, q1, qP, qK, qD⟩ := q; exact ⟨q0, q1, qP, va_K.moved (u := U) (U := U.calling g mk a) (Vm.Alike.refl U.vm) qK, qD⟩, va_recv hKc hPc (ci := 7) (q0 := 0) rfl rfl, fun U hU hW => ⟨rfl, by rw [hU], by rw [hU]; exact hPc, va_K.moved hW.alike hKc, hDc.weaken (fun _ _ _ _ => trivial)⟩⟩ rfl rfl hl.1 rfl (lv_room (Nat.le_of_ble_eq_true rfl)) dX7_read_150 ⟨Nat.le_of_ble_eq_true rfl, Nat.le_of_ble_eq_true rfl⟩) hS (fun q _ h => hFc q h) hFc (fun u9 t9 H1 locs ht9 hvm hw hB1 hz1 hk1 hS => ?_)
  obtain ⟨g1_1, g2_2, g3_3, g4_4⟩ := u9
  try dsimp only at hB1 hw
  obtain ⟨hP1, hK1, hD1⟩ := hB1
  rw [ht9] at hP1
  have hK1 := va_K.moved hvm.symm hK1
  obtain ⟨w_5, w_6⟩ := hw
  obtain ⟨hP, hD⟩ := va_join (wr := []) (w1 := [(h0, .inr (7, MO rf 0 0 1 0 0)), (rf 14, .inl (c1, 400, .inl g1_1)), (rf 15, .inl (c2, 400, .inl g2_2)), (rf 16, .inl (c3, 400, .inl g3_3)), (rf 17, .inl (c4, 400, .inl g4_4))]) hP hD [4, 0, 1, 2, 3] [] rfl rfl (by decide) (by decide) hk1 hFc hP1 hD1
  have hK := (hK.sub (tys' := []) [] rfl).app hK1
  generalize H1 = H at hP hS ⊢
  have hP : va_P (dC, dI) vwCl [(h0, .inr (7, MO rf 0 0 1 0 0)), (rf 14, .inl (c1, 400, .inl g1_1)), (rf 15, .inl (c2, 400, .inl g2_2)), (rf 16, .inl (c3, 400, .inl g3_3)), (rf 17, .inl (c4, 400, .inl g4_4))] H := hP
  have hD : va_D A [(h0, .inr (7, MO rf 0 0 1 0 0)), (rf 14, .inl (c1, 400, .inl g1_1)), (rf 15, .inl (c2, 400, .inl g2_2)), (rf 16, .inl (c3, 400, .inl g3_3)), (rf 17, .inl (c4, 400, .inl g4_4))] := hD
  have hK : va_K (dC, dI) vwCl [(c1, .int), (c2, .int), (c3, .int), (c4, .int)] s := hK
  refine lv_goto (tgt := 330) hx hb dX7_read_153 (by decide) ?_
  refine lv_iconst (v := 1) hx hb dX7_read_330 (by decide) ?_
  have hP9 := hP.sub (ws' := [(h0, .inr (7, MO rf 0 0 1 0 0)), (rf 14, .inl (c1, 400, .inl g1_1)), (rf 15, .inl (c2, 400, .inl g2_2)), (rf 16, .inl (c3, 400, .inl g3_3)), (rf 17, .inl (c4, 400, .inl g4_4))]) [0, 1, 2, 3, 4] rfl
  have hD9 := hD.sub (ws' := [(h0, .inr (7, MO rf 0 0 1 0 0)), (rf 14, .inl (c1, 400, .inl g1_1)), (rf 15, .inl (c2, 400, .inl g2_2)), (rf 16, .inl (c3, 400, .inl g3_3)), (rf 17, .inl (c4, 400, .inl g4_4))]) [0, 1, 2, 3, 4] (by decide) rfl
  have hK9 := hK.sub (tys' := [(c1, .int), (c2, .int), (c3, .int), (c4, .int)]) [0, 1, 2, 3] rfl
  refine W.widen (k := 0) (n := 0) (by decide) (by decide) ?_
  exact W.zret (v := 1) hx hb hr (by decide) (fun t9 ht9 hW => ⟨⟨1, (g1_1, g2_2, g3_3, g4_4), rfl, ⟨rfl, w_5, w_6⟩, by rw [ht9]; exact hP9, va_K.moved hW.alike hK9, hD9⟩, hS.F ht9⟩) hS.2.2 dX7_read_331
set_option maxHeartbeats 4000000 in
set_option maxRecDepth 100000 in
theorem c_mread0_1 (l : Launch) (dC : Nat → ClassId) (dI : Nat → Nat → Nat) (h0 : Nat) (rf : Nat → Nat) (c1 : ClassId) (c2 : ClassId) (c3 : ClassId) (c4 : ClassId) (f1 : Nat → Int32) (f2 : Nat → Int32) (f3 : Nat → Int32) (f4 : Nat → Int32) (sz : Nat) (h1 : f1 0 = 1) (h4 : f4 0 = 0) : Met l yX7_read (Cond.code yX7_read cX7_read 5 (some .boolean) :: BG) ({ frames := 1, cells := 0, slots := 0, locals := 24 }) (va_Pc [.ref h0] (fun U => U.heap.size = sz ∧ va_P (dC, dI) vwCl [(h0, .inr (7, MO rf 0 0 1 0 0)), (rf 14, .inl (c1, 400, .inl f1)), (rf 15, .inl (c2, 400, .inl f2)), (rf 16, .inl (c3, 400, .inl f3)), (rf 17, .inl (c4, 400, .inl f4))] U.heap ∧ va_K (dC, dI) vwCl [(c1, .int), (c2, .int), (c3, .int), (c4, .int)] U ∧ va_D (fun _ => True) [(h0, .inr (7, MO rf 0 0 1 0 0)), (rf 14, .inl (c1, 400, .inl f1)), (rf 15, .inl (c2, 400, .inl f2)), (rf 16, .inl (c3, 400, .inl f3)), (rf 17, .inl (c4, 400, .inl f4))])) (va_Qi (fun (r9 : Int32) (u9 : (Nat → Int32) × (Nat → Int32) × (Nat → Int32) × (Nat → Int32)) => match u9 with | (g1, g2, g3, g4) => r9 = 1 ∧ g1 1 = 3 ∧ g4 1 = 0) (fun (u9 : (Nat → Int32) × (Nat → Int32) × (Nat → Int32) × (Nat → Int32)) (t9 : State) => match u9 with | (g1, g2, g3, g4) => va_P (dC, dI) vwCl [(h0, .inr (7, MO rf 0 0 2 0 0)), (rf 14, .inl (c1, 400, .inl g1)), (rf 15, .inl (c2, 400, .inl g2)), (rf 16, .inl (c3, 400, .inl g3)), (rf 17, .inl (c4, 400, .inl g4))] t9.heap ∧ va_K (dC, dI) vwCl [(c1, .int), (c2, .int), (c3, .int), (c4, .int)] t9 ∧ va_D (va_A [(h0, .inr (7, MO rf 0 0 1 0 0)), (rf 14, .inl (c1, 400, .inl f1)), (rf 15, .inl (c2, 400, .inl f2)), (rf 16, .inl (c3, 400, .inl f3)), (rf 17, .inl (c4, 400, .inl f4))] sz) [(h0, .inr (7, MO rf 0 0 2 0 0)), (rf 14, .inl (c1, 400, .inl g1)), (rf 15, .inl (c2, 400, .inl g2)), (rf 16, .inl (c3, 400, .inl g3)), (rf 17, .inl (c4, 400, .inl g4))]) (va_A [(h0, .inr (7, MO rf 0 0 1 0 0)), (rf 14, .inl (c1, 400, .inl f1)), (rf 15, .inl (c2, 400, .inl f2)), (rf 16, .inl (c3, 400, .inl f3)), (rf 17, .inl (c4, 400, .inl f4))] sz)) 0 0 (va_A [(h0, .inr (7, MO rf 0 0 1 0 0)), (rf 14, .inl (c1, 400, .inl f1)), (rf 15, .inl (c2, 400, .inl f2)), (rf 16, .inl (c3, 400, .inl f3)), (rf 17, .inl (c4, 400, .inl f4))] sz) := by
  refine Met.ofW (cc := cX7_read) (maxL := 5) (ret := (some .boolean)) (by decide) rfl ?_
  intro p e s m args below meth c s₁ B hml hv
  obtain ⟨rfl, hsz, hP, hK, hD0⟩ := hv
  have hx := B.exec
  have hb := B.bytes
  have hr := B.returns
  have hts := atoms_spec (ws := Cond.code yX7_read cX7_read 5 (some .boolean) :: BG) B.pre
  have hB : ∀ w ∈ BG, w.before _ s = true := fun w h => hts w (List.mem_cons_of_mem _ h)
  have hown : s.vm.findClass RX7 = some m.cls := findClass_of_methodNamed B.named
  have hlocks := B.notSynchronized
  subst hsz
  have hD := hD0.self (sz := s.heap.size)
  generalize hAe : va_A [(h0, .inr (7, MO rf 0 0 1 0 0)), (rf 14, .inl (c1, 400, .inl f1)), (rf 15, .inl (c2, 400, .inl f2)), (rf 16, .inl (c3, 400, .inl f3)), (rf 17, .inl (c4, 400, .inl f4))] s.heap.size = A at hD ⊢
  have hA : ∀ q : Nat, s.heap.size ≤ q → A q := fun q h => by rw [← hAe]; exact Or.inr h
  have hS : va_S A s.heap s.heap [] := va_S.rf
  have hP : va_P (dC, dI) vwCl [(h0, .inr (7, MO rf 0 0 1 0 0)), (rf 14, .inl (c1, 400, .inl f1)), (rf 15, .inl (c2, 400, .inl f2)), (rf 16, .inl (c3, 400, .inl f3)), (rf 17, .inl (c4, 400, .inl f4))] s.heap := hP
  have hl := lv_entry ([.ref h0]) (n := 5) (Nat.le_of_ble_eq_true rfl)
  rw [lg_entry_eq]
  generalize (lg_sl ([.ref h0]) ++ List.replicate (5 - (lg_sl ([.ref h0])).length) Slot.unset).toArray = ls at hl ⊢
  have hl : lv_has ls 5 [(0, .ref h0)] := hl
  refine lv_aload_n hx hb dX7_read_0 rfl (lv_at hl 0 rfl) ?_
  refine lv_dup hx hb dX7_read_1 rfl ?_
  refine va_get (D := (dC, dI)) (ci := 7) (v := .int 1) (C := RX7) (T := TX7) (N := 55) hx hb hB inB7 hown hK hP 0 rfl rfl 18 (by decide) (hB _ bg238) (fun _ h9 => h9) rfl dX7_read_2 ?_
  refine lv_iconst (v := 1) hx hb dX7_read_5 (by decide) ?_
  refine lv_isub hx hb dX7_read_6 ?_
  rw [show (1 : Int32) - 1 = 0 by decide]
  refine va_put (D := (dC, dI)) (ci := 7) (v := .int 0) (ty := .int) (C := RX7) (T := TX7) (N := 55) hx hb hB inB7 tyX7 tyX7_ok nmX7 hown hK hP hD hS 0 rfl rfl 18 (by decide) (hB _ bg238) (fun _ h9 => h9) rfl (by decide +kernel) rfl rfl (Nat.le_of_ble_eq_true rfl) dX7_read_7 (fun H locs hP hD hS => ?_)
  have hP : va_P (dC, dI) vwCl [(h0, .inr (7, MO rf 0 0 0 0 0)), (rf 14, .inl (c1, 400, .inl f1)), (rf 15, .inl (c2, 400, .inl f2)), (rf 16, .inl (c3, 400, .inl f3)), (rf 17, .inl (c4, 400, .inl f4))] H := hP
  have hD : va_D A [(h0, .inr (7, MO rf 0 0 0 0 0)), (rf 14, .inl (c1, 400, .inl f1)), (rf 15, .inl (c2, 400, .inl f2)), (rf 16, .inl (c3, 400, .inl f3)), (rf 17, .inl (c4, 400, .inl f4))] := hD
  refine lv_aload_n hx hb dX7_read_10 rfl (lv_at hl 0 rfl) ?_
  refine va_get (D := (dC, dI)) (ci := 7) (v := .ref (rf 14)) (C := RX7) (T := TX7) (N := 55) hx hb hB inB7 hown hK hP 0 rfl rfl 14 (by decide) (hB _ bg194) (fun _ h9 => h9) rfl dX7_read_11 ?_
  refine lv_aload_n hx hb dX7_read_14 rfl (lv_at hl 0 rfl) ?_
  refine va_get (D := (dC, dI)) (ci := 7) (v := .int 0) (C := RX7) (T := TX7) (N := 55) hx hb hB inB7 hown hK hP 0 rfl rfl 18 (by decide) (hB _ bg238) (fun _ h9 => h9) rfl dX7_read_15 ?_
  refine va_iald hx hb hK hP 1 0 rfl rfl (i := 0) (by rw [vp_in_iff]; decide) dX7_read_18 ?_
  rw [show f1 (0 : Int32).toNatClampNeg = 1 from (by rw [show (0 : Int32).toNatClampNeg = 0 by decide]; exact h1)]
  refine lv_istore_n (lv' := [(1, .int 1), (0, .ref h0)]) hx hb dX7_read_19 rfl hl (by decide) rfl (fun ls hl => ?_)
  refine lv_aload_n hx hb dX7_read_20 rfl (lv_at hl 1 rfl) ?_
  refine va_get (D := (dC, dI)) (ci := 7) (v := .ref (rf 17)) (C := RX7) (T := TX7) (N := 55) hx hb hB inB7 hown hK hP 0 rfl rfl 17 (by decide) (hB _ bg197) (fun _ h9 => h9) rfl dX7_read_21 ?_
  refine lv_aload_n hx hb dX7_read_24 rfl (lv_at hl 1 rfl) ?_
  refine va_get (D := (dC, dI)) (ci := 7) (v := .int 0) (C := RX7) (T := TX7) (N := 55) hx hb hB inB7 hown hK hP 0 rfl rfl 18 (by decide) (hB _ bg238) (fun _ h9 => h9) rfl dX7_read_25 ?_
  refine va_iald hx hb hK hP 4 3 rfl rfl (i := 0) (by rw [vp_in_iff]; decide) dX7_read_28 ?_
  rw [show f4 (0 : Int32).toNatClampNeg = 0 from (by rw [show (0 : Int32).toNatClampNeg = 0 by decide]; exact h4)]
  refine lv_istore_n (lv' := [(2, .int 0), (1, .int 1), (0, .ref h0)]) hx hb dX7_read_29 rfl hl (by decide) rfl (fun ls hl => ?_)
  refine lv_aload_n hx hb dX7_read_30 rfl (lv_at hl 2 rfl) ?_
  refine va_get (D := (dC, dI)) (ci := 7) (v := .ref (rf 15)) (C := RX7) (T := TX7) (N := 55) hx hb hB inB7 hown hK hP 0 rfl rfl 15 (by decide) (hB _ bg195) (fun _ h9 => h9) rfl dX7_read_31 ?_
  refine lv_aload_n hx hb dX7_read_34 rfl (lv_at hl 2 rfl) ?_
  refine va_get (D := (dC, dI)) (ci := 7) (v := .int 0) (C := RX7) (T := TX7) (N := 55) hx hb hB inB7 hown hK hP 0 rfl rfl 18 (by decide) (hB _ bg238) (fun _ h9 => h9) rfl dX7_read_35 ?_
  refine va_iald hx hb hK hP 2 1 rfl rfl (i := 0) (by rw [vp_in_iff]; decide) dX7_read_38 ?_
  refine lv_istore_n (lv' := [(3, .int (f2 (0 : Int32).toNatClampNeg)), (2, .int 0), (1, .int 1), (0, .ref h0)]) hx hb dX7_read_39 rfl hl (by decide) rfl (fun ls hl => ?_)
  refine lv_iload_n hx hb dX7_read_40 rfl (lv_at hl 1 rfl) ?_
  refine lv_bipush (v := 7) hx hb dX7_read_41 (by decide) ?_
  refine lv_icmp_le (tgt := 68) hx hb dX7_read_43 (by decide) (fun _ => ?_) (fun c9 => absurd c9 (by decide))
  refine lv_aload_n hx hb dX7_read_68 rfl (lv_at hl 3 rfl) ?_
  have hPc := hP.sub (ws' := [(h0, .inr (7, MO rf 0 0 0 0 0))]) [0] rfl
  have hDc := hD.sub (ws' := [(h0, .inr (7, MO rf 0 0 0 0 0))]) [0] (by decide) rfl
  have hKc := hK.sub (tys' := []) [] rfl
  have hFc := va_free (wc := [(h0, .inr (7, MO rf 0 0 0 0 0))]) hD hS hA [0] rfl
  refine va_calli (va_runV (As := []) (rest := []) ⟨hx, hb, hml, hown, hB⟩ (c_mlook l dC dI h0 rf 0 H.size) (cwV 0 hB (bgV bg244 bg245 bg246 bg225 bg247) rfl rfl rfl (by decide +kernel) ⟨Nat.le_of_ble_eq_true rfl, Nat.le_of_ble_eq_true rfl⟩) ⟨fun a U g mk q => by obtain ⟨q0, q1, qP, qK, qD⟩ := q; exact ⟨q0, q1, qP, va_K.moved (u := U) (U := U.calling g mk a) (Vm.Alike.refl U.vm) qK, qD⟩, va_recv hKc hPc (ci := 7) (q0 := 0) rfl rfl, fun U hU hW => ⟨rfl, by rw [hU], by rw [hU]; exact hPc, va_K.moved hW.alike hKc, hDc.weaken (fun _ _ _ _ => trivial)⟩⟩ rfl rfl hl.1 rfl (lv_room (Nat.le_of_ble_eq_true rfl)) dX7_read_69 ⟨Nat.le_of_ble_eq_true rfl, Nat.le_of_ble_eq_true rfl⟩) hS (fun q _ h => hFc q h) hFc (fun r9 u9 t9 H1 locs ht9 hvm hw hB1 hz1 hk1 hS => ?_)
  try dsimp only at hB1 hw
  obtain ⟨hP1, hK1, hD1⟩ := hB1
  rw [ht9] at hP1
  have hK1 := va_K.moved hvm.symm hK1
  obtain rfl := hw
  obtain ⟨hP, hD⟩ := va_join (wr := [(rf 14, .inl (c1, 400, .inl f1)), (rf 15, .inl (c2, 400, .inl f2)), (rf 16, .inl (c3, 400, .inl f3)), (rf 17, .inl (c4, 400, .inl f4))]) (w1 := [(h0, .inr (7, MO rf 0 0 0 0 0))]) hP hD [0] [1, 2, 3, 4] rfl rfl (by decide) (by decide) hk1 hFc hP1 hD1
  have hK := (hK.sub (tys' := [(c1, .int), (c2, .int), (c3, .int), (c4, .int)]) [0, 1, 2, 3] rfl).app hK1
  generalize H1 = H at hP hS ⊢
  have hP : va_P (dC, dI) vwCl [(rf 14, .inl (c1, 400, .inl f1)), (rf 15, .inl (c2, 400, .inl f2)), (rf 16, .inl (c3, 400, .inl f3)), (rf 17, .inl (c4, 400, .inl f4)), (h0, .inr (7, MO rf 0 0 0 0 0))] H := hP
  have hD : va_D A [(rf 14, .inl (c1, 400, .inl f1)), (rf 15, .inl (c2, 400, .inl f2)), (rf 16, .inl (c3, 400, .inl f3)), (rf 17, .inl (c4, 400, .inl f4)), (h0, .inr (7, MO rf 0 0 0 0 0))] := hD
  have hK : va_K (dC, dI) vwCl [(c1, .int), (c2, .int), (c3, .int), (c4, .int)] s := hK
  refine lv_istore (lv' := [(4, .int (-1)), (3, .int (f2 (0 : Int32).toNatClampNeg)), (2, .int 0), (1, .int 1), (0, .ref h0)]) hx hb dX7_read_72 hl (by decide) rfl (fun ls hl => ?_)
  refine lv_iload_n hx hb dX7_read_74 rfl (lv_at hl 3 rfl) ?_
  refine lv_if_ne (tgt := 156) hx hb dX7_read_75 (by decide) (fun _ => ?_) (fun c9 => absurd c9 (by decide))
  refine lv_iload_n hx hb dX7_read_156 rfl (lv_at hl 3 rfl) ?_
  refine lv_iconst (v := 1) hx hb dX7_read_157 (by decide) ?_
  refine lv_icmp_eq (tgt := 183) hx hb dX7_read_158 (by decide) (fun _ => ?_) (fun c9 => absurd c9 (by decide))
  refine lv_aload_n hx hb dX7_read_183 rfl (lv_at hl 4 rfl) ?_
  refine lv_iload_n hx hb dX7_read_184 rfl (lv_at hl 3 rfl) ?_
  refine lv_iconst (v := 1) hx hb dX7_read_185 (by decide) ?_
  refine lv_iadd hx hb dX7_read_186 ?_
  rw [show (1 : Int32) + 1 = 2 by decide]
  refine lv_iconst (v := 0) hx hb dX7_read_187 (by decide) ?_
  refine lv_iconst (v := 0) hx hb dX7_read_188 (by decide) ?_
  refine lv_iload_n hx hb dX7_read_189 rfl (lv_at hl 2 rfl) ?_
  have hPc := hP.sub (ws' := [(h0, .inr (7, MO rf 0 0 0 0 0)), (rf 14, .inl (c1, 400, .inl f1)), (rf 15, .inl (c2, 400, .inl f2)), (rf 16, .inl (c3, 400, .inl f3)), (rf 17, .inl (c4, 400, .inl f4))]) [4, 0, 1, 2, 3] rfl
  have hDc := hD.sub (ws' := [(h0, .inr (7, MO rf 0 0 0 0 0)), (rf 14, .inl (c1, 400, .inl f1)), (rf 15, .inl (c2, 400, .inl f2)), (rf 16, .inl (c3, 400, .inl f3)), (rf 17, .inl (c4, 400, .inl f4))]) [4, 0, 1, 2, 3] (by decide) rfl
  have hKc := hK.sub (tys' := [(c1, .int), (c2, .int), (c3, .int), (c4, .int)]) [0, 1, 2, 3] rfl
  have hFc := va_free (wc := [(h0, .inr (7, MO rf 0 0 0 0 0)), (rf 14, .inl (c1, 400, .inl f1)), (rf 15, .inl (c2, 400, .inl f2)), (rf 16, .inl (c3, 400, .inl f3)), (rf 17, .inl (c4, 400, .inl f4))]) hD hS hA [4, 0, 1, 2, 3] rfl
  refine va_callv (va_runV (As := [.int 2, .int 0, .int 0, .int 0]) (rest := []) ⟨hx, hb, hml, hown, hB⟩ (c_mput0 l dC dI h0 rf c1 c2 c3 c4 f1 f2 f3 f4 2 0 0 0 H.size) (cwV 4 hB (bgV bg255 bg256 bg257 bg225 bg258) rfl rfl rfl (by decide +kernel) ⟨Nat.le_of_ble_eq_true rfl, Nat.le_of_ble_eq_true rfl⟩) ⟨fun a U g mk q => by obtain ⟨q0, q1, qP, qK, qD⟩ := q; exact ⟨q0, q1, qP, va_K.moved (u := U) (U := U.calling g mk a) (Vm.Alike.refl U.vm) qK, qD⟩, va_recv hKc hPc (ci := 7) (q0 := 0) rfl rfl, fun U hU hW => ⟨rfl, by rw [hU], by rw [hU]; exact hPc, va_K.moved hW.alike hKc, hDc.weaken (fun _ _ _ _ => trivial)⟩⟩ rfl rfl hl.1 rfl (lv_room (Nat.le_of_ble_eq_true rfl)) dX7_read_190 ⟨Nat.le_of_ble_eq_true rfl, Nat.le_of_ble_eq_true rfl⟩) hS (fun q _ h => hFc q h) hFc (fun u9 t9 H1 locs ht9 hvm hw hB1 hz1 hk1 hS => ?_)
  obtain ⟨g1_1, g2_2, g3_3, g4_4⟩ := u9
  try dsimp only at hB1 hw
  obtain ⟨hP1, hK1, hD1⟩ := hB1
  rw [ht9] at hP1
  have hK1 := va_K.moved hvm.symm hK1
  obtain ⟨w_5, w_6⟩ := hw
  obtain ⟨hP, hD⟩ := va_join (wr := []) (w1 := [(h0, .inr (7, MO rf 0 0 1 0 0)), (rf 14, .inl (c1, 400, .inl g1_1)), (rf 15, .inl (c2, 400, .inl g2_2)), (rf 16, .inl (c3, 400, .inl g3_3)), (rf 17, .inl (c4, 400, .inl g4_4))]) hP hD [4, 0, 1, 2, 3] [] rfl rfl (by decide) (by decide) hk1 hFc hP1 hD1
  have hK := (hK.sub (tys' := []) [] rfl).app hK1
  generalize H1 = H at hP hS ⊢
  have hP : va_P (dC, dI) vwCl [(h0, .inr (7, MO rf 0 0 1 0 0)), (rf 14, .inl (c1, 400, .inl g1_1)), (rf 15, .inl (c2, 400, .inl g2_2)), (rf 16, .inl (c3, 400, .inl g3_3)), (rf 17, .inl (c4, 400, .inl g4_4))] H := hP
  have hD : va_D A [(h0, .inr (7, MO rf 0 0 1 0 0)), (rf 14, .inl (c1, 400, .inl g1_1)), (rf 15, .inl (c2, 400, .inl g2_2)), (rf 16, .inl (c3, 400, .inl g3_3)), (rf 17, .inl (c4, 400, .inl g4_4))] := hD
  have hK : va_K (dC, dI) vwCl [(c1, .int), (c2, .int), (c3, .int), (c4, .int)] s := hK
  refine lv_aload_n hx hb dX7_read_193 rfl (lv_at hl 4 rfl) ?_
  refine lv_iload_n hx hb dX7_read_194 rfl (lv_at hl 3 rfl) ?_
  refine lv_iconst (v := 2) hx hb dX7_read_195 (by decide) ?_
  refine lv_iadd hx hb dX7_read_196 ?_
  rw [show (1 : Int32) + 2 = 3 by decide]
  refine lv_iconst (v := 0) hx hb dX7_read_197 (by decide) ?_
  refine lv_iconst (v := 0) hx hb dX7_read_198 (by decide) ?_
  refine lv_iload_n hx hb dX7_read_199 rfl (lv_at hl 2 rfl) ?_
  have hPc := hP.sub (ws' := [(h0, .inr (7, MO rf 0 0 1 0 0)), (rf 14, .inl (c1, 400, .inl g1_1)), (rf 15, .inl (c2, 400, .inl g2_2)), (rf 16, .inl (c3, 400, .inl g3_3)), (rf 17, .inl (c4, 400, .inl g4_4))]) [0, 1, 2, 3, 4] rfl
  have hDc := hD.sub (ws' := [(h0, .inr (7, MO rf 0 0 1 0 0)), (rf 14, .inl (c1, 400, .inl g1_1)), (rf 15, .inl (c2, 400, .inl g2_2)), (rf 16, .inl (c3, 400, .inl g3_3)), (rf 17, .inl (c4, 400, .inl g4_4))]) [0, 1, 2, 3, 4] (by decide) rfl
  have hKc := hK.sub (tys' := [(c1, .int), (c2, .int), (c3, .int), (c4, .int)]) [0, 1, 2, 3] rfl
  have hFc := va_free (wc := [(h0, .inr (7, MO rf 0 0 1 0 0)), (rf 14, .inl (c1, 400, .inl g1_1)), (rf 15, .inl (c2, 400, .inl g2_2)), (rf 16, .inl (c3, 400, .inl g3_3)), (rf 17, .inl (c4, 400, .inl g4_4))]) hD hS hA [0, 1, 2, 3, 4] rfl
  refine va_callv (va_runV (As := [.int 3, .int 0, .int 0, .int 0]) (rest := []) ⟨hx, hb, hml, hown, hB⟩ (c_mput1 l dC dI h0 rf c1 c2 c3 c4 g1_1 g2_2 g3_3 g4_4 3 0 0 0 H.size) (cwV 4 hB (bgV bg255 bg256 bg257 bg225 bg258) rfl rfl rfl (by decide +kernel) ⟨Nat.le_of_ble_eq_true rfl, Nat.le_of_ble_eq_true rfl⟩) ⟨fun a U g mk q => by obtain ⟨q0, q1, qP, qK, qD⟩ := q; exact ⟨q0, q1, qP, va_K.moved (u := U) (U := U.calling g mk a) (Vm.Alike.refl U.vm) qK, qD⟩, va_recv hKc hPc (ci := 7) (q0 := 0) rfl rfl, fun U hU hW => ⟨rfl, by rw [hU], by rw [hU]; exact hPc, va_K.moved hW.alike hKc, hDc.weaken (fun _ _ _ _ => trivial)⟩⟩ rfl rfl hl.1 rfl (lv_room (Nat.le_of_ble_eq_true rfl)) dX7_read_200 ⟨Nat.le_of_ble_eq_true rfl, Nat.le_of_ble_eq_true rfl⟩) hS (fun q _ h => hFc q h) hFc (fun u9 t9 H1 locs ht9 hvm hw hB1 hz1 hk1 hS => ?_)
  obtain ⟨g1_7, g2_8, g3_9, g4_10⟩ := u9
  try dsimp only at hB1 hw
  obtain ⟨hP1, hK1, hD1⟩ := hB1
  rw [ht9] at hP1
  have hK1 := va_K.moved hvm.symm hK1
  obtain ⟨w_11, w_12⟩ := hw
  obtain ⟨hP, hD⟩ := va_join (wr := []) (w1 := [(h0, .inr (7, MO rf 0 0 2 0 0)), (rf 14, .inl (c1, 400, .inl g1_7)), (rf 15, .inl (c2, 400, .inl g2_8)), (rf 16, .inl (c3, 400, .inl g3_9)), (rf 17, .inl (c4, 400, .inl g4_10))]) hP hD [0, 1, 2, 3, 4] [] rfl rfl (by decide) (by decide) hk1 hFc hP1 hD1
  have hK := (hK.sub (tys' := []) [] rfl).app hK1
  generalize H1 = H at hP hS ⊢
  have hP : va_P (dC, dI) vwCl [(h0, .inr (7, MO rf 0 0 2 0 0)), (rf 14, .inl (c1, 400, .inl g1_7)), (rf 15, .inl (c2, 400, .inl g2_8)), (rf 16, .inl (c3, 400, .inl g3_9)), (rf 17, .inl (c4, 400, .inl g4_10))] H := hP
  have hD : va_D A [(h0, .inr (7, MO rf 0 0 2 0 0)), (rf 14, .inl (c1, 400, .inl g1_7)), (rf 15, .inl (c2, 400, .inl g2_8)), (rf 16, .inl (c3, 400, .inl g3_9)), (rf 17, .inl (c4, 400, .inl g4_10))] := hD
  have hK : va_K (dC, dI) vwCl [(c1, .int), (c2, .int), (c3, .int), (c4, .int)] s := hK
  refine lv_goto (tgt := 330) hx hb dX7_read_203 (by decide) ?_
  refine lv_iconst (v := 1) hx hb dX7_read_330 (by decide) ?_
  have hP9 := hP.sub (ws' := [(h0, .inr (7, MO rf 0 0 2 0 0)), (rf 14, .inl (c1, 400, .inl g1_7)), (rf 15, .inl (c2, 400, .inl g2_8)), (rf 16, .inl (c3, 400, .inl g3_9)), (rf 17, .inl (c4, 400, .inl g4_10))]) [0, 1, 2, 3, 4] rfl
  have hD9 := hD.sub (ws' := [(h0, .inr (7, MO rf 0 0 2 0 0)), (rf 14, .inl (c1, 400, .inl g1_7)), (rf 15, .inl (c2, 400, .inl g2_8)), (rf 16, .inl (c3, 400, .inl g3_9)), (rf 17, .inl (c4, 400, .inl g4_10))]) [0, 1, 2, 3, 4] (by decide) rfl
  have hK9 := hK.sub (tys' := [(c1, .int), (c2, .int), (c3, .int), (c4, .int)]) [0, 1, 2, 3] rfl
  refine W.widen (k := 0) (n := 0) (by decide) (by decide) ?_
  exact W.zret (v := 1) hx hb hr (by decide) (fun t9 ht9 hW => ⟨⟨1, (g1_7, g2_8, g3_9, g4_10), rfl, ⟨rfl, w_11, w_12⟩, by rw [ht9]; exact hP9, va_K.moved hW.alike hK9, hD9⟩, hS.F ht9⟩) hS.2.2 dX7_read_331
set_option maxHeartbeats 4000000 in
set_option maxRecDepth 100000 in
theorem c_mread1_3 (l : Launch) (dC : Nat → ClassId) (dI : Nat → Nat → Nat) (h0 : Nat) (rf : Nat → Nat) (c1 : ClassId) (c2 : ClassId) (c3 : ClassId) (c4 : ClassId) (f1 : Nat → Int32) (f2 : Nat → Int32) (f3 : Nat → Int32) (f4 : Nat → Int32) (sz : Nat) (h1 : f1 1 = 3) (h4 : f4 1 = 0) : Met l yX7_read (Cond.code yX7_read cX7_read 5 (some .boolean) :: BG) ({ frames := 1, cells := 0, slots := 0, locals := 24 }) (va_Pc [.ref h0] (fun U => U.heap.size = sz ∧ va_P (dC, dI) vwCl [(h0, .inr (7, MO rf 0 0 2 0 0)), (rf 14, .inl (c1, 400, .inl f1)), (rf 15, .inl (c2, 400, .inl f2)), (rf 16, .inl (c3, 400, .inl f3)), (rf 17, .inl (c4, 400, .inl f4))] U.heap ∧ va_K (dC, dI) vwCl [(c1, .int), (c2, .int), (c3, .int), (c4, .int)] U ∧ va_D (fun _ => True) [(h0, .inr (7, MO rf 0 0 2 0 0)), (rf 14, .inl (c1, 400, .inl f1)), (rf 15, .inl (c2, 400, .inl f2)), (rf 16, .inl (c3, 400, .inl f3)), (rf 17, .inl (c4, 400, .inl f4))])) (va_Qi (fun (r9 : Int32) (u9 : (Nat → Int32) × (Nat → Int32) × (Nat → Int32) × (Nat → Int32)) => match u9 with | (g1, g2, g3, g4) => r9 = 1 ∧ g1 2 = 5 ∧ g4 2 = 0) (fun (u9 : (Nat → Int32) × (Nat → Int32) × (Nat → Int32) × (Nat → Int32)) (t9 : State) => match u9 with | (g1, g2, g3, g4) => va_P (dC, dI) vwCl [(h0, .inr (7, MO rf 0 0 3 0 0)), (rf 14, .inl (c1, 400, .inl g1)), (rf 15, .inl (c2, 400, .inl g2)), (rf 16, .inl (c3, 400, .inl g3)), (rf 17, .inl (c4, 400, .inl g4))] t9.heap ∧ va_K (dC, dI) vwCl [(c1, .int), (c2, .int), (c3, .int), (c4, .int)] t9 ∧ va_D (va_A [(h0, .inr (7, MO rf 0 0 2 0 0)), (rf 14, .inl (c1, 400, .inl f1)), (rf 15, .inl (c2, 400, .inl f2)), (rf 16, .inl (c3, 400, .inl f3)), (rf 17, .inl (c4, 400, .inl f4))] sz) [(h0, .inr (7, MO rf 0 0 3 0 0)), (rf 14, .inl (c1, 400, .inl g1)), (rf 15, .inl (c2, 400, .inl g2)), (rf 16, .inl (c3, 400, .inl g3)), (rf 17, .inl (c4, 400, .inl g4))]) (va_A [(h0, .inr (7, MO rf 0 0 2 0 0)), (rf 14, .inl (c1, 400, .inl f1)), (rf 15, .inl (c2, 400, .inl f2)), (rf 16, .inl (c3, 400, .inl f3)), (rf 17, .inl (c4, 400, .inl f4))] sz)) 0 0 (va_A [(h0, .inr (7, MO rf 0 0 2 0 0)), (rf 14, .inl (c1, 400, .inl f1)), (rf 15, .inl (c2, 400, .inl f2)), (rf 16, .inl (c3, 400, .inl f3)), (rf 17, .inl (c4, 400, .inl f4))] sz) := by
  refine Met.ofW (cc := cX7_read) (maxL := 5) (ret := (some .boolean)) (by decide) rfl ?_
  intro p e s m args below meth c s₁ B hml hv
  obtain ⟨rfl, hsz, hP, hK, hD0⟩ := hv
  have hx := B.exec
  have hb := B.bytes
  have hr := B.returns
  have hts := atoms_spec (ws := Cond.code yX7_read cX7_read 5 (some .boolean) :: BG) B.pre
  have hB : ∀ w ∈ BG, w.before _ s = true := fun w h => hts w (List.mem_cons_of_mem _ h)
  have hown : s.vm.findClass RX7 = some m.cls := findClass_of_methodNamed B.named
  have hlocks := B.notSynchronized
  subst hsz
  have hD := hD0.self (sz := s.heap.size)
  generalize hAe : va_A [(h0, .inr (7, MO rf 0 0 2 0 0)), (rf 14, .inl (c1, 400, .inl f1)), (rf 15, .inl (c2, 400, .inl f2)), (rf 16, .inl (c3, 400, .inl f3)), (rf 17, .inl (c4, 400, .inl f4))] s.heap.size = A at hD ⊢
  have hA : ∀ q : Nat, s.heap.size ≤ q → A q := fun q h => by rw [← hAe]; exact Or.inr h
  have hS : va_S A s.heap s.heap [] := va_S.rf
  have hP : va_P (dC, dI) vwCl [(h0, .inr (7, MO rf 0 0 2 0 0)), (rf 14, .inl (c1, 400, .inl f1)), (rf 15, .inl (c2, 400, .inl f2)), (rf 16, .inl (c3, 400, .inl f3)), (rf 17, .inl (c4, 400, .inl f4))] s.heap := hP
  have hl := lv_entry ([.ref h0]) (n := 5) (Nat.le_of_ble_eq_true rfl)
  rw [lg_entry_eq]
  generalize (lg_sl ([.ref h0]) ++ List.replicate (5 - (lg_sl ([.ref h0])).length) Slot.unset).toArray = ls at hl ⊢
  have hl : lv_has ls 5 [(0, .ref h0)] := hl
  refine lv_aload_n hx hb dX7_read_0 rfl (lv_at hl 0 rfl) ?_
  refine lv_dup hx hb dX7_read_1 rfl ?_
  refine va_get (D := (dC, dI)) (ci := 7) (v := .int 2) (C := RX7) (T := TX7) (N := 55) hx hb hB inB7 hown hK hP 0 rfl rfl 18 (by decide) (hB _ bg238) (fun _ h9 => h9) rfl dX7_read_2 ?_
  refine lv_iconst (v := 1) hx hb dX7_read_5 (by decide) ?_
  refine lv_isub hx hb dX7_read_6 ?_
  rw [show (2 : Int32) - 1 = 1 by decide]
  refine va_put (D := (dC, dI)) (ci := 7) (v := .int 1) (ty := .int) (C := RX7) (T := TX7) (N := 55) hx hb hB inB7 tyX7 tyX7_ok nmX7 hown hK hP hD hS 0 rfl rfl 18 (by decide) (hB _ bg238) (fun _ h9 => h9) rfl (by decide +kernel) rfl rfl (Nat.le_of_ble_eq_true rfl) dX7_read_7 (fun H locs hP hD hS => ?_)
  have hP : va_P (dC, dI) vwCl [(h0, .inr (7, MO rf 0 0 1 0 0)), (rf 14, .inl (c1, 400, .inl f1)), (rf 15, .inl (c2, 400, .inl f2)), (rf 16, .inl (c3, 400, .inl f3)), (rf 17, .inl (c4, 400, .inl f4))] H := hP
  have hD : va_D A [(h0, .inr (7, MO rf 0 0 1 0 0)), (rf 14, .inl (c1, 400, .inl f1)), (rf 15, .inl (c2, 400, .inl f2)), (rf 16, .inl (c3, 400, .inl f3)), (rf 17, .inl (c4, 400, .inl f4))] := hD
  refine lv_aload_n hx hb dX7_read_10 rfl (lv_at hl 0 rfl) ?_
  refine va_get (D := (dC, dI)) (ci := 7) (v := .ref (rf 14)) (C := RX7) (T := TX7) (N := 55) hx hb hB inB7 hown hK hP 0 rfl rfl 14 (by decide) (hB _ bg194) (fun _ h9 => h9) rfl dX7_read_11 ?_
  refine lv_aload_n hx hb dX7_read_14 rfl (lv_at hl 0 rfl) ?_
  refine va_get (D := (dC, dI)) (ci := 7) (v := .int 1) (C := RX7) (T := TX7) (N := 55) hx hb hB inB7 hown hK hP 0 rfl rfl 18 (by decide) (hB _ bg238) (fun _ h9 => h9) rfl dX7_read_15 ?_
  refine va_iald hx hb hK hP 1 0 rfl rfl (i := 1) (by rw [vp_in_iff]; decide) dX7_read_18 ?_
  rw [show f1 (1 : Int32).toNatClampNeg = 3 from (by rw [show (1 : Int32).toNatClampNeg = 1 by decide]; exact h1)]
  refine lv_istore_n (lv' := [(1, .int 3), (0, .ref h0)]) hx hb dX7_read_19 rfl hl (by decide) rfl (fun ls hl => ?_)
  refine lv_aload_n hx hb dX7_read_20 rfl (lv_at hl 1 rfl) ?_
  refine va_get (D := (dC, dI)) (ci := 7) (v := .ref (rf 17)) (C := RX7) (T := TX7) (N := 55) hx hb hB inB7 hown hK hP 0 rfl rfl 17 (by decide) (hB _ bg197) (fun _ h9 => h9) rfl dX7_read_21 ?_
  refine lv_aload_n hx hb dX7_read_24 rfl (lv_at hl 1 rfl) ?_
  refine va_get (D := (dC, dI)) (ci := 7) (v := .int 1) (C := RX7) (T := TX7) (N := 55) hx hb hB inB7 hown hK hP 0 rfl rfl 18 (by decide) (hB _ bg238) (fun _ h9 => h9) rfl dX7_read_25 ?_
  refine va_iald hx hb hK hP 4 3 rfl rfl (i := 1) (by rw [vp_in_iff]; decide) dX7_read_28 ?_
  rw [show f4 (1 : Int32).toNatClampNeg = 0 from (by rw [show (1 : Int32).toNatClampNeg = 1 by decide]; exact h4)]
  refine lv_istore_n (lv' := [(2, .int 0), (1, .int 3), (0, .ref h0)]) hx hb dX7_read_29 rfl hl (by decide) rfl (fun ls hl => ?_)
  refine lv_aload_n hx hb dX7_read_30 rfl (lv_at hl 2 rfl) ?_
  refine va_get (D := (dC, dI)) (ci := 7) (v := .ref (rf 15)) (C := RX7) (T := TX7) (N := 55) hx hb hB inB7 hown hK hP 0 rfl rfl 15 (by decide) (hB _ bg195) (fun _ h9 => h9) rfl dX7_read_31 ?_
  refine lv_aload_n hx hb dX7_read_34 rfl (lv_at hl 2 rfl) ?_
  refine va_get (D := (dC, dI)) (ci := 7) (v := .int 1) (C := RX7) (T := TX7) (N := 55) hx hb hB inB7 hown hK hP 0 rfl rfl 18 (by decide) (hB _ bg238) (fun _ h9 => h9) rfl dX7_read_35 ?_
  refine va_iald hx hb hK hP 2 1 rfl rfl (i := 1) (by rw [vp_in_iff]; decide) dX7_read_38 ?_
  refine lv_istore_n (lv' := [(3, .int (f2 (1 : Int32).toNatClampNeg)), (2, .int 0), (1, .int 3), (0, .ref h0)]) hx hb dX7_read_39 rfl hl (by decide) rfl (fun ls hl => ?_)
  refine lv_iload_n hx hb dX7_read_40 rfl (lv_at hl 1 rfl) ?_
  refine lv_bipush (v := 7) hx hb dX7_read_41 (by decide) ?_
  refine lv_icmp_le (tgt := 68) hx hb dX7_read_43 (by decide) (fun _ => ?_) (fun c9 => absurd c9 (by decide))
  refine lv_aload_n hx hb dX7_read_68 rfl (lv_at hl 3 rfl) ?_
  have hPc := hP.sub (ws' := [(h0, .inr (7, MO rf 0 0 1 0 0))]) [0] rfl
  have hDc := hD.sub (ws' := [(h0, .inr (7, MO rf 0 0 1 0 0))]) [0] (by decide) rfl
  have hKc := hK.sub (tys' := []) [] rfl
  have hFc := va_free (wc := [(h0, .inr (7, MO rf 0 0 1 0 0))]) hD hS hA [0] rfl
  refine va_calli (va_runV (As := []) (rest := []) ⟨hx, hb, hml, hown, hB⟩ (c_mlook l dC dI h0 rf 1 H.size) (cwV 0 hB (bgV bg244 bg245 bg246 bg225 bg247) rfl rfl rfl (by decide +kernel) ⟨Nat.le_of_ble_eq_true rfl, Nat.le_of_ble_eq_true rfl⟩) ⟨fun a U g mk q => by obtain ⟨q0, q1, qP, qK, qD⟩ := q; exact ⟨q0, q1, qP, va_K.moved (u := U) (U := U.calling g mk a) (Vm.Alike.refl U.vm) qK, qD⟩, va_recv hKc hPc (ci := 7) (q0 := 0) rfl rfl, fun U hU hW => ⟨rfl, by rw [hU], by rw [hU]; exact hPc, va_K.moved hW.alike hKc, hDc.weaken (fun _ _ _ _ => trivial)⟩⟩ rfl rfl hl.1 rfl (lv_room (Nat.le_of_ble_eq_true rfl)) dX7_read_69 ⟨Nat.le_of_ble_eq_true rfl, Nat.le_of_ble_eq_true rfl⟩) hS (fun q _ h => hFc q h) hFc (fun r9 u9 t9 H1 locs ht9 hvm hw hB1 hz1 hk1 hS => ?_)
  try dsimp only at hB1 hw
  obtain ⟨hP1, hK1, hD1⟩ := hB1
  rw [ht9] at hP1
  have hK1 := va_K.moved hvm.symm hK1
  obtain rfl := hw
  obtain ⟨hP, hD⟩ := va_join (wr := [(rf 14, .inl (c1, 400, .inl f1)), (rf 15, .inl (c2, 400, .inl f2)), (rf 16, .inl (c3, 400, .inl f3)), (rf 17, .inl (c4, 400, .inl f4))]) (w1 := [(h0, .inr (7, MO rf 0 0 1 0 0))]) hP hD [0] [1, 2, 3, 4] rfl rfl (by decide) (by decide) hk1 hFc hP1 hD1
  have hK := (hK.sub (tys' := [(c1, .int), (c2, .int), (c3, .int), (c4, .int)]) [0, 1, 2, 3] rfl).app hK1
  generalize H1 = H at hP hS ⊢
  have hP : va_P (dC, dI) vwCl [(rf 14, .inl (c1, 400, .inl f1)), (rf 15, .inl (c2, 400, .inl f2)), (rf 16, .inl (c3, 400, .inl f3)), (rf 17, .inl (c4, 400, .inl f4)), (h0, .inr (7, MO rf 0 0 1 0 0))] H := hP
  have hD : va_D A [(rf 14, .inl (c1, 400, .inl f1)), (rf 15, .inl (c2, 400, .inl f2)), (rf 16, .inl (c3, 400, .inl f3)), (rf 17, .inl (c4, 400, .inl f4)), (h0, .inr (7, MO rf 0 0 1 0 0))] := hD
  have hK : va_K (dC, dI) vwCl [(c1, .int), (c2, .int), (c3, .int), (c4, .int)] s := hK
  refine lv_istore (lv' := [(4, .int (-1)), (3, .int (f2 (1 : Int32).toNatClampNeg)), (2, .int 0), (1, .int 3), (0, .ref h0)]) hx hb dX7_read_72 hl (by decide) rfl (fun ls hl => ?_)
  refine lv_iload_n hx hb dX7_read_74 rfl (lv_at hl 3 rfl) ?_
  refine lv_if_ne (tgt := 156) hx hb dX7_read_75 (by decide) (fun _ => ?_) (fun c9 => absurd c9 (by decide))
  refine lv_iload_n hx hb dX7_read_156 rfl (lv_at hl 3 rfl) ?_
  refine lv_iconst (v := 1) hx hb dX7_read_157 (by decide) ?_
  refine lv_icmp_eq (tgt := 183) hx hb dX7_read_158 (by decide) (fun c9 => absurd c9 (by decide)) (fun _ => ?_)
  refine lv_iload_n hx hb dX7_read_161 rfl (lv_at hl 3 rfl) ?_
  refine lv_iconst (v := 3) hx hb dX7_read_162 (by decide) ?_
  refine lv_icmp_eq (tgt := 183) hx hb dX7_read_163 (by decide) (fun _ => ?_) (fun c9 => absurd c9 (by decide))
  refine lv_aload_n hx hb dX7_read_183 rfl (lv_at hl 4 rfl) ?_
  refine lv_iload_n hx hb dX7_read_184 rfl (lv_at hl 3 rfl) ?_
  refine lv_iconst (v := 1) hx hb dX7_read_185 (by decide) ?_
  refine lv_iadd hx hb dX7_read_186 ?_
  rw [show (3 : Int32) + 1 = 4 by decide]
  refine lv_iconst (v := 0) hx hb dX7_read_187 (by decide) ?_
  refine lv_iconst (v := 0) hx hb dX7_read_188 (by decide) ?_
  refine lv_iload_n hx hb dX7_read_189 rfl (lv_at hl 2 rfl) ?_
  have hPc := hP.sub (ws' := [(h0, .inr (7, MO rf 0 0 1 0 0)), (rf 14, .inl (c1, 400, .inl f1)), (rf 15, .inl (c2, 400, .inl f2)), (rf 16, .inl (c3, 400, .inl f3)), (rf 17, .inl (c4, 400, .inl f4))]) [4, 0, 1, 2, 3] rfl
  have hDc := hD.sub (ws' := [(h0, .inr (7, MO rf 0 0 1 0 0)), (rf 14, .inl (c1, 400, .inl f1)), (rf 15, .inl (c2, 400, .inl f2)), (rf 16, .inl (c3, 400, .inl f3)), (rf 17, .inl (c4, 400, .inl f4))]) [4, 0, 1, 2, 3] (by decide) rfl
  have hKc := hK.sub (tys' := [(c1, .int), (c2, .int), (c3, .int), (c4, .int)]) [0, 1, 2, 3] rfl
  have hFc := va_free (wc := [(h0, .inr (7, MO rf 0 0 1 0 0)), (rf 14, .inl (c1, 400, .inl f1)), (rf 15, .inl (c2, 400, .inl f2)), (rf 16, .inl (c3, 400, .inl f3)), (rf 17, .inl (c4, 400, .inl f4))]) hD hS hA [4, 0, 1, 2, 3] rfl
  refine va_callv (va_runV (As := [.int 4, .int 0, .int 0, .int 0]) (rest := []) ⟨hx, hb, hml, hown, hB⟩ (c_mput1 l dC dI h0 rf c1 c2 c3 c4 f1 f2 f3 f4 4 0 0 0 H.size) (cwV 4 hB (bgV bg255 bg256 bg257 bg225 bg258) rfl rfl rfl (by decide +kernel) ⟨Nat.le_of_ble_eq_true rfl, Nat.le_of_ble_eq_true rfl⟩) ⟨fun a U g mk q => by obtain ⟨q0, q1, qP, qK, qD⟩ := q; exact ⟨q0, q1, qP, va_K.moved (u := U) (U := U.calling g mk a) (Vm.Alike.refl U.vm) qK, qD⟩, va_recv hKc hPc (ci := 7) (q0 := 0) rfl rfl, fun U hU hW => ⟨rfl, by rw [hU], by rw [hU]; exact hPc, va_K.moved hW.alike hKc, hDc.weaken (fun _ _ _ _ => trivial)⟩⟩ rfl rfl hl.1 rfl (lv_room (Nat.le_of_ble_eq_true rfl)) dX7_read_190 ⟨Nat.le_of_ble_eq_true rfl, Nat.le_of_ble_eq_true rfl⟩) hS (fun q _ h => hFc q h) hFc (fun u9 t9 H1 locs ht9 hvm hw hB1 hz1 hk1 hS => ?_)
  obtain ⟨g1_1, g2_2, g3_3, g4_4⟩ := u9
  try dsimp only at hB1 hw
  obtain ⟨hP1, hK1, hD1⟩ := hB1
  rw [ht9] at hP1
  have hK1 := va_K.moved hvm.symm hK1
  obtain ⟨w_5, w_6⟩ := hw
  obtain ⟨hP, hD⟩ := va_join (wr := []) (w1 := [(h0, .inr (7, MO rf 0 0 2 0 0)), (rf 14, .inl (c1, 400, .inl g1_1)), (rf 15, .inl (c2, 400, .inl g2_2)), (rf 16, .inl (c3, 400, .inl g3_3)), (rf 17, .inl (c4, 400, .inl g4_4))]) hP hD [4, 0, 1, 2, 3] [] rfl rfl (by decide) (by decide) hk1 hFc hP1 hD1
  have hK := (hK.sub (tys' := []) [] rfl).app hK1
  generalize H1 = H at hP hS ⊢
  have hP : va_P (dC, dI) vwCl [(h0, .inr (7, MO rf 0 0 2 0 0)), (rf 14, .inl (c1, 400, .inl g1_1)), (rf 15, .inl (c2, 400, .inl g2_2)), (rf 16, .inl (c3, 400, .inl g3_3)), (rf 17, .inl (c4, 400, .inl g4_4))] H := hP
  have hD : va_D A [(h0, .inr (7, MO rf 0 0 2 0 0)), (rf 14, .inl (c1, 400, .inl g1_1)), (rf 15, .inl (c2, 400, .inl g2_2)), (rf 16, .inl (c3, 400, .inl g3_3)), (rf 17, .inl (c4, 400, .inl g4_4))] := hD
  have hK : va_K (dC, dI) vwCl [(c1, .int), (c2, .int), (c3, .int), (c4, .int)] s := hK
  refine lv_aload_n hx hb dX7_read_193 rfl (lv_at hl 4 rfl) ?_
  refine lv_iload_n hx hb dX7_read_194 rfl (lv_at hl 3 rfl) ?_
  refine lv_iconst (v := 2) hx hb dX7_read_195 (by decide) ?_
  refine lv_iadd hx hb dX7_read_196 ?_
  rw [show (3 : Int32) + 2 = 5 by decide]
  refine lv_iconst (v := 0) hx hb dX7_read_197 (by decide) ?_
  refine lv_iconst (v := 0) hx hb dX7_read_198 (by decide) ?_
  refine lv_iload_n hx hb dX7_read_199 rfl (lv_at hl 2 rfl) ?_
  have hPc := hP.sub (ws' := [(h0, .inr (7, MO rf 0 0 2 0 0)), (rf 14, .inl (c1, 400, .inl g1_1)), (rf 15, .inl (c2, 400, .inl g2_2)), (rf 16, .inl (c3, 400, .inl g3_3)), (rf 17, .inl (c4, 400, .inl g4_4))]) [0, 1, 2, 3, 4] rfl
  have hDc := hD.sub (ws' := [(h0, .inr (7, MO rf 0 0 2 0 0)), (rf 14, .inl (c1, 400, .inl g1_1)), (rf 15, .inl (c2, 400, .inl g2_2)), (rf 16, .inl (c3, 400, .inl g3_3)), (rf 17, .inl (c4, 400, .inl g4_4))]) [0, 1, 2, 3, 4] (by decide) rfl
  have hKc := hK.sub (tys' := [(c1, .int), (c2, .int), (c3, .int), (c4, .int)]) [0, 1, 2, 3] rfl
  have hFc := va_free (wc := [(h0, .inr (7, MO rf 0 0 2 0 0)), (rf 14, .inl (c1, 400, .inl g1_1)), (rf 15, .inl (c2, 400, .inl g2_2)), (rf 16, .inl (c3, 400, .inl g3_3)), (rf 17, .inl (c4, 400, .inl g4_4))]) hD hS hA [0, 1, 2, 3, 4] rfl
  refine va_callv (va_runV (As := [.int 5, .int 0, .int 0, .int 0]) (rest := []) ⟨hx, hb, hml, hown, hB⟩ (c_mput2 l dC dI h0 rf c1 c2 c3 c4 g1_1 g2_2 g3_3 g4_4 5 0 0 0 H.size) (cwV 4 hB (bgV bg255 bg256 bg257 bg225 bg258) rfl rfl rfl (by decide +kernel) ⟨Nat.le_of_ble_eq_true rfl, Nat.le_of_ble_eq_true rfl⟩) ⟨fun a U g mk q => by obtain ⟨q0, q1, qP, qK, qD⟩ := q; exact ⟨q0, q1, qP, va_K.moved (u := U) (U := U.calling g mk a) (Vm.Alike.refl U.vm) qK, qD⟩, va_recv hKc hPc (ci := 7) (q0 := 0) rfl rfl, fun U hU hW => ⟨rfl, by rw [hU], by rw [hU]; exact hPc, va_K.moved hW.alike hKc, hDc.weaken (fun _ _ _ _ => trivial)⟩⟩ rfl rfl hl.1 rfl (lv_room (Nat.le_of_ble_eq_true rfl)) dX7_read_200 ⟨Nat.le_of_ble_eq_true rfl, Nat.le_of_ble_eq_true rfl⟩) hS (fun q _ h => hFc q h) hFc (fun u9 t9 H1 locs ht9 hvm hw hB1 hz1 hk1 hS => ?_)
  obtain ⟨g1_7, g2_8, g3_9, g4_10⟩ := u9
  try dsimp only at hB1 hw
  obtain ⟨hP1, hK1, hD1⟩ := hB1
  rw [ht9] at hP1
  have hK1 := va_K.moved hvm.symm hK1
  obtain ⟨w_11, w_12⟩ := hw
  obtain ⟨hP, hD⟩ := va_join (wr := []) (w1 := [(h0, .inr (7, MO rf 0 0 3 0 0)), (rf 14, .inl (c1, 400, .inl g1_7)), (rf 15, .inl (c2, 400, .inl g2_8)), (rf 16, .inl (c3, 400, .inl g3_9)), (rf 17, .inl (c4, 400, .inl g4_10))]) hP hD [0, 1, 2, 3, 4] [] rfl rfl (by decide) (by decide) hk1 hFc hP1 hD1
  have hK := (hK.sub (tys' := []) [] rfl).app hK1
  generalize H1 = H at hP hS ⊢
  have hP : va_P (dC, dI) vwCl [(h0, .inr (7, MO rf 0 0 3 0 0)), (rf 14, .inl (c1, 400, .inl g1_7)), (rf 15, .inl (c2, 400, .inl g2_8)), (rf 16, .inl (c3, 400, .inl g3_9)), (rf 17, .inl (c4, 400, .inl g4_10))] H := hP
  have hD : va_D A [(h0, .inr (7, MO rf 0 0 3 0 0)), (rf 14, .inl (c1, 400, .inl g1_7)), (rf 15, .inl (c2, 400, .inl g2_8)), (rf 16, .inl (c3, 400, .inl g3_9)), (rf 17, .inl (c4, 400, .inl g4_10))] := hD
  have hK : va_K (dC, dI) vwCl [(c1, .int), (c2, .int), (c3, .int), (c4, .int)] s := hK
  refine lv_goto (tgt := 330) hx hb dX7_read_203 (by decide) ?_
  refine lv_iconst (v := 1) hx hb dX7_read_330 (by decide) ?_
  have hP9 := hP.sub (ws' := [(h0, .inr (7, MO rf 0 0 3 0 0)), (rf 14, .inl (c1, 400, .inl g1_7)), (rf 15, .inl (c2, 400, .inl g2_8)), (rf 16, .inl (c3, 400, .inl g3_9)), (rf 17, .inl (c4, 400, .inl g4_10))]) [0, 1, 2, 3, 4] rfl
  have hD9 := hD.sub (ws' := [(h0, .inr (7, MO rf 0 0 3 0 0)), (rf 14, .inl (c1, 400, .inl g1_7)), (rf 15, .inl (c2, 400, .inl g2_8)), (rf 16, .inl (c3, 400, .inl g3_9)), (rf 17, .inl (c4, 400, .inl g4_10))]) [0, 1, 2, 3, 4] (by decide) rfl
  have hK9 := hK.sub (tys' := [(c1, .int), (c2, .int), (c3, .int), (c4, .int)]) [0, 1, 2, 3] rfl
  refine W.widen (k := 0) (n := 0) (by decide) (by decide) ?_
  exact W.zret (v := 1) hx hb hr (by decide) (fun t9 ht9 hW => ⟨⟨1, (g1_7, g2_8, g3_9, g4_10), rfl, ⟨rfl, w_11, w_12⟩, by rw [ht9]; exact hP9, va_K.moved hW.alike hK9, hD9⟩, hS.F ht9⟩) hS.2.2 dX7_read_331
set_option maxHeartbeats 4000000 in
set_option maxRecDepth 100000 in
theorem c_mread2_5 (l : Launch) (dC : Nat → ClassId) (dI : Nat → Nat → Nat) (h0 : Nat) (rf : Nat → Nat) (c1 : ClassId) (c2 : ClassId) (c3 : ClassId) (c4 : ClassId) (f1 : Nat → Int32) (f2 : Nat → Int32) (f3 : Nat → Int32) (f4 : Nat → Int32) (sz : Nat) (h1 : f1 2 = 5) (h4 : f4 2 = 0) : Met l yX7_read (Cond.code yX7_read cX7_read 5 (some .boolean) :: BG) ({ frames := 1, cells := 0, slots := 0, locals := 24 }) (va_Pc [.ref h0] (fun U => U.heap.size = sz ∧ va_P (dC, dI) vwCl [(h0, .inr (7, MO rf 0 0 3 0 0)), (rf 14, .inl (c1, 400, .inl f1)), (rf 15, .inl (c2, 400, .inl f2)), (rf 16, .inl (c3, 400, .inl f3)), (rf 17, .inl (c4, 400, .inl f4))] U.heap ∧ va_K (dC, dI) vwCl [(c1, .int), (c2, .int), (c3, .int), (c4, .int)] U ∧ va_D (fun _ => True) [(h0, .inr (7, MO rf 0 0 3 0 0)), (rf 14, .inl (c1, 400, .inl f1)), (rf 15, .inl (c2, 400, .inl f2)), (rf 16, .inl (c3, 400, .inl f3)), (rf 17, .inl (c4, 400, .inl f4))])) (va_Qi (fun (r9 : Int32) (u9 : (Nat → Int32) × (Nat → Int32) × (Nat → Int32) × (Nat → Int32)) => match u9 with | (g1, g2, g3, g4) => r9 = 1 ∧ g1 3 = 7 ∧ g4 3 = 0) (fun (u9 : (Nat → Int32) × (Nat → Int32) × (Nat → Int32) × (Nat → Int32)) (t9 : State) => match u9 with | (g1, g2, g3, g4) => va_P (dC, dI) vwCl [(h0, .inr (7, MO rf 0 0 4 0 0)), (rf 14, .inl (c1, 400, .inl g1)), (rf 15, .inl (c2, 400, .inl g2)), (rf 16, .inl (c3, 400, .inl g3)), (rf 17, .inl (c4, 400, .inl g4))] t9.heap ∧ va_K (dC, dI) vwCl [(c1, .int), (c2, .int), (c3, .int), (c4, .int)] t9 ∧ va_D (va_A [(h0, .inr (7, MO rf 0 0 3 0 0)), (rf 14, .inl (c1, 400, .inl f1)), (rf 15, .inl (c2, 400, .inl f2)), (rf 16, .inl (c3, 400, .inl f3)), (rf 17, .inl (c4, 400, .inl f4))] sz) [(h0, .inr (7, MO rf 0 0 4 0 0)), (rf 14, .inl (c1, 400, .inl g1)), (rf 15, .inl (c2, 400, .inl g2)), (rf 16, .inl (c3, 400, .inl g3)), (rf 17, .inl (c4, 400, .inl g4))]) (va_A [(h0, .inr (7, MO rf 0 0 3 0 0)), (rf 14, .inl (c1, 400, .inl f1)), (rf 15, .inl (c2, 400, .inl f2)), (rf 16, .inl (c3, 400, .inl f3)), (rf 17, .inl (c4, 400, .inl f4))] sz)) 0 0 (va_A [(h0, .inr (7, MO rf 0 0 3 0 0)), (rf 14, .inl (c1, 400, .inl f1)), (rf 15, .inl (c2, 400, .inl f2)), (rf 16, .inl (c3, 400, .inl f3)), (rf 17, .inl (c4, 400, .inl f4))] sz) := by
  refine Met.ofW (cc := cX7_read) (maxL := 5) (ret := (some .boolean)) (by decide) rfl ?_
  intro p e s m args below meth c s₁ B hml hv
  obtain ⟨rfl, hsz, hP, hK, hD0⟩ := hv
  have hx := B.exec
  have hb := B.bytes
  have hr := B.returns
  have hts := atoms_spec (ws := Cond.code yX7_read cX7_read 5 (some .boolean) :: BG) B.pre
  have hB : ∀ w ∈ BG, w.before _ s = true := fun w h => hts w (List.mem_cons_of_mem _ h)
  have hown : s.vm.findClass RX7 = some m.cls := findClass_of_methodNamed B.named
  have hlocks := B.notSynchronized
  subst hsz
  have hD := hD0.self (sz := s.heap.size)
  generalize hAe : va_A [(h0, .inr (7, MO rf 0 0 3 0 0)), (rf 14, .inl (c1, 400, .inl f1)), (rf 15, .inl (c2, 400, .inl f2)), (rf 16, .inl (c3, 400, .inl f3)), (rf 17, .inl (c4, 400, .inl f4))] s.heap.size = A at hD ⊢
  have hA : ∀ q : Nat, s.heap.size ≤ q → A q := fun q h => by rw [← hAe]; exact Or.inr h
  have hS : va_S A s.heap s.heap [] := va_S.rf
  have hP : va_P (dC, dI) vwCl [(h0, .inr (7, MO rf 0 0 3 0 0)), (rf 14, .inl (c1, 400, .inl f1)), (rf 15, .inl (c2, 400, .inl f2)), (rf 16, .inl (c3, 400, .inl f3)), (rf 17, .inl (c4, 400, .inl f4))] s.heap := hP
  have hl := lv_entry ([.ref h0]) (n := 5) (Nat.le_of_ble_eq_true rfl)
  rw [lg_entry_eq]
  generalize (lg_sl ([.ref h0]) ++ List.replicate (5 - (lg_sl ([.ref h0])).length) Slot.unset).toArray = ls at hl ⊢
  have hl : lv_has ls 5 [(0, .ref h0)] := hl
  refine lv_aload_n hx hb dX7_read_0 rfl (lv_at hl 0 rfl) ?_
  refine lv_dup hx hb dX7_read_1 rfl ?_
  refine va_get (D := (dC, dI)) (ci := 7) (v := .int 3) (C := RX7) (T := TX7) (N := 55) hx hb hB inB7 hown hK hP 0 rfl rfl 18 (by decide) (hB _ bg238) (fun _ h9 => h9) rfl dX7_read_2 ?_
  refine lv_iconst (v := 1) hx hb dX7_read_5 (by decide) ?_
  refine lv_isub hx hb dX7_read_6 ?_
  rw [show (3 : Int32) - 1 = 2 by decide]
  refine va_put (D := (dC, dI)) (ci := 7) (v := .int 2) (ty := .int) (C := RX7) (T := TX7) (N := 55) hx hb hB inB7 tyX7 tyX7_ok nmX7 hown hK hP hD hS 0 rfl rfl 18 (by decide) (hB _ bg238) (fun _ h9 => h9) rfl (by decide +kernel) rfl rfl (Nat.le_of_ble_eq_true rfl) dX7_read_7 (fun H locs hP hD hS => ?_)
  have hP : va_P (dC, dI) vwCl [(h0, .inr (7, MO rf 0 0 2 0 0)), (rf 14, .inl (c1, 400, .inl f1)), (rf 15, .inl (c2, 400, .inl f2)), (rf 16, .inl (c3, 400, .inl f3)), (rf 17, .inl (c4, 400, .inl f4))] H := hP
  have hD : va_D A [(h0, .inr (7, MO rf 0 0 2 0 0)), (rf 14, .inl (c1, 400, .inl f1)), (rf 15, .inl (c2, 400, .inl f2)), (rf 16, .inl (c3, 400, .inl f3)), (rf 17, .inl (c4, 400, .inl f4))] := hD
  refine lv_aload_n hx hb dX7_read_10 rfl (lv_at hl 0 rfl) ?_
  refine va_get (D := (dC, dI)) (ci := 7) (v := .ref (rf 14)) (C := RX7) (T := TX7) (N := 55) hx hb hB inB7 hown hK hP 0 rfl rfl 14 (by decide) (hB _ bg194) (fun _ h9 => h9) rfl dX7_read_11 ?_
  refine lv_aload_n hx hb dX7_read_14 rfl (lv_at hl 0 rfl) ?_
  refine va_get (D := (dC, dI)) (ci := 7) (v := .int 2) (C := RX7) (T := TX7) (N := 55) hx hb hB inB7 hown hK hP 0 rfl rfl 18 (by decide) (hB _ bg238) (fun _ h9 => h9) rfl dX7_read_15 ?_
  refine va_iald hx hb hK hP 1 0 rfl rfl (i := 2) (by rw [vp_in_iff]; decide) dX7_read_18 ?_
  rw [show f1 (2 : Int32).toNatClampNeg = 5 from (by rw [show (2 : Int32).toNatClampNeg = 2 by decide]; exact h1)]
  refine lv_istore_n (lv' := [(1, .int 5), (0, .ref h0)]) hx hb dX7_read_19 rfl hl (by decide) rfl (fun ls hl => ?_)
  refine lv_aload_n hx hb dX7_read_20 rfl (lv_at hl 1 rfl) ?_
  refine va_get (D := (dC, dI)) (ci := 7) (v := .ref (rf 17)) (C := RX7) (T := TX7) (N := 55) hx hb hB inB7 hown hK hP 0 rfl rfl 17 (by decide) (hB _ bg197) (fun _ h9 => h9) rfl dX7_read_21 ?_
  refine lv_aload_n hx hb dX7_read_24 rfl (lv_at hl 1 rfl) ?_
  refine va_get (D := (dC, dI)) (ci := 7) (v := .int 2) (C := RX7) (T := TX7) (N := 55) hx hb hB inB7 hown hK hP 0 rfl rfl 18 (by decide) (hB _ bg238) (fun _ h9 => h9) rfl dX7_read_25 ?_
  refine va_iald hx hb hK hP 4 3 rfl rfl (i := 2) (by rw [vp_in_iff]; decide) dX7_read_28 ?_
  rw [show f4 (2 : Int32).toNatClampNeg = 0 from (by rw [show (2 : Int32).toNatClampNeg = 2 by decide]; exact h4)]
  refine lv_istore_n (lv' := [(2, .int 0), (1, .int 5), (0, .ref h0)]) hx hb dX7_read_29 rfl hl (by decide) rfl (fun ls hl => ?_)
  refine lv_aload_n hx hb dX7_read_30 rfl (lv_at hl 2 rfl) ?_
  refine va_get (D := (dC, dI)) (ci := 7) (v := .ref (rf 15)) (C := RX7) (T := TX7) (N := 55) hx hb hB inB7 hown hK hP 0 rfl rfl 15 (by decide) (hB _ bg195) (fun _ h9 => h9) rfl dX7_read_31 ?_
  refine lv_aload_n hx hb dX7_read_34 rfl (lv_at hl 2 rfl) ?_
  refine va_get (D := (dC, dI)) (ci := 7) (v := .int 2) (C := RX7) (T := TX7) (N := 55) hx hb hB inB7 hown hK hP 0 rfl rfl 18 (by decide) (hB _ bg238) (fun _ h9 => h9) rfl dX7_read_35 ?_
  refine va_iald hx hb hK hP 2 1 rfl rfl (i := 2) (by rw [vp_in_iff]; decide) dX7_read_38 ?_
  refine lv_istore_n (lv' := [(3, .int (f2 (2 : Int32).toNatClampNeg)), (2, .int 0), (1, .int 5), (0, .ref h0)]) hx hb dX7_read_39 rfl hl (by decide) rfl (fun ls hl => ?_)
  refine lv_iload_n hx hb dX7_read_40 rfl (lv_at hl 1 rfl) ?_
  refine lv_bipush (v := 7) hx hb dX7_read_41 (by decide) ?_
  refine lv_icmp_le (tgt := 68) hx hb dX7_read_43 (by decide) (fun _ => ?_) (fun c9 => absurd c9 (by decide))
  refine lv_aload_n hx hb dX7_read_68 rfl (lv_at hl 3 rfl) ?_
  have hPc := hP.sub (ws' := [(h0, .inr (7, MO rf 0 0 2 0 0))]) [0] rfl
  have hDc := hD.sub (ws' := [(h0, .inr (7, MO rf 0 0 2 0 0))]) [0] (by decide) rfl
  have hKc := hK.sub (tys' := []) [] rfl
  have hFc := va_free (wc := [(h0, .inr (7, MO rf 0 0 2 0 0))]) hD hS hA [0] rfl
  refine va_calli (va_runV (As := []) (rest := []) ⟨hx, hb, hml, hown, hB⟩ (c_mlook l dC dI h0 rf 2 H.size) (cwV 0 hB (bgV bg244 bg245 bg246 bg225 bg247) rfl rfl rfl (by decide +kernel) ⟨Nat.le_of_ble_eq_true rfl, Nat.le_of_ble_eq_true rfl⟩) ⟨fun a U g mk q => by obtain ⟨q0, q1, qP, qK, qD⟩ := q; exact ⟨q0, q1, qP, va_K.moved (u := U) (U := U.calling g mk a) (Vm.Alike.refl U.vm) qK, qD⟩, va_recv hKc hPc (ci := 7) (q0 := 0) rfl rfl, fun U hU hW => ⟨rfl, by rw [hU], by rw [hU]; exact hPc, va_K.moved hW.alike hKc, hDc.weaken (fun _ _ _ _ => trivial)⟩⟩ rfl rfl hl.1 rfl (lv_room (Nat.le_of_ble_eq_true rfl)) dX7_read_69 ⟨Nat.le_of_ble_eq_true rfl, Nat.le_of_ble_eq_true rfl⟩) hS (fun q _ h => hFc q h) hFc (fun r9 u9 t9 H1 locs ht9 hvm hw hB1 hz1 hk1 hS => ?_)
  try dsimp only at hB1 hw
  obtain ⟨hP1, hK1, hD1⟩ := hB1
  rw [ht9] at hP1
  have hK1 := va_K.moved hvm.symm hK1
  obtain rfl := hw
  obtain ⟨hP, hD⟩ := va_join (wr := [(rf 14, .inl (c1, 400, .inl f1)), (rf 15, .inl (c2, 400, .inl f2)), (rf 16, .inl (c3, 400, .inl f3)), (rf 17, .inl (c4, 400, .inl f4))]) (w1 := [(h0, .inr (7, MO rf 0 0 2 0 0))]) hP hD [0] [1, 2, 3, 4] rfl rfl (by decide) (by decide) hk1 hFc hP1 hD1
  have hK := (hK.sub (tys' := [(c1, .int), (c2, .int), (c3, .int), (c4, .int)]) [0, 1, 2, 3] rfl).app hK1
  generalize H1 = H at hP hS ⊢
  have hP : va_P (dC, dI) vwCl [(rf 14, .inl (c1, 400, .inl f1)), (rf 15, .inl (c2, 400, .inl f2)), (rf 16, .inl (c3, 400, .inl f3)), (rf 17, .inl (c4, 400, .inl f4)), (h0, .inr (7, MO rf 0 0 2 0 0))] H := hP
  have hD : va_D A [(rf 14, .inl (c1, 400, .inl f1)), (rf 15, .inl (c2, 400, .inl f2)), (rf 16, .inl (c3, 400, .inl f3)), (rf 17, .inl (c4, 400, .inl f4)), (h0, .inr (7, MO rf 0 0 2 0 0))] := hD
  have hK : va_K (dC, dI) vwCl [(c1, .int), (c2, .int), (c3, .int), (c4, .int)] s := hK
  refine lv_istore (lv' := [(4, .int (-1)), (3, .int (f2 (2 : Int32).toNatClampNeg)), (2, .int 0), (1, .int 5), (0, .ref h0)]) hx hb dX7_read_72 hl (by decide) rfl (fun ls hl => ?_)
  refine lv_iload_n hx hb dX7_read_74 rfl (lv_at hl 3 rfl) ?_
  refine lv_if_ne (tgt := 156) hx hb dX7_read_75 (by decide) (fun _ => ?_) (fun c9 => absurd c9 (by decide))
  refine lv_iload_n hx hb dX7_read_156 rfl (lv_at hl 3 rfl) ?_
  refine lv_iconst (v := 1) hx hb dX7_read_157 (by decide) ?_
  refine lv_icmp_eq (tgt := 183) hx hb dX7_read_158 (by decide) (fun c9 => absurd c9 (by decide)) (fun _ => ?_)
  refine lv_iload_n hx hb dX7_read_161 rfl (lv_at hl 3 rfl) ?_
  refine lv_iconst (v := 3) hx hb dX7_read_162 (by decide) ?_
  refine lv_icmp_eq (tgt := 183) hx hb dX7_read_163 (by decide) (fun c9 => absurd c9 (by decide)) (fun _ => ?_)
  refine lv_iload_n hx hb dX7_read_166 rfl (lv_at hl 3 rfl) ?_
  refine lv_iconst (v := 5) hx hb dX7_read_167 (by decide) ?_
  refine lv_icmp_eq (tgt := 183) hx hb dX7_read_168 (by decide) (fun _ => ?_) (fun c9 => absurd c9 (by decide))
  refine lv_aload_n hx hb dX7_read_183 rfl (lv_at hl 4 rfl) ?_
  refine lv_iload_n hx hb dX7_read_184 rfl (lv_at hl 3 rfl) ?_
  refine lv_iconst (v := 1) hx hb dX7_read_185 (by decide) ?_
  refine lv_iadd hx hb dX7_read_186 ?_
  rw [show (5 : Int32) + 1 = 6 by decide]
  refine lv_iconst (v := 0) hx hb dX7_read_187 (by decide) ?_
  refine lv_iconst (v := 0) hx hb dX7_read_188 (by decide) ?_
  refine lv_iload_n hx hb dX7_read_189 rfl (lv_at hl 2 rfl) ?_
  have hPc := hP.sub (ws' := [(h0, .inr (7, MO rf 0 0 2 0 0)), (rf 14, .inl (c1, 400, .inl f1)), (rf 15, .inl (c2, 400, .inl f2)), (rf 16, .inl (c3, 400, .inl f3)), (rf 17, .inl (c4, 400, .inl f4))]) [4, 0, 1, 2, 3] rfl
  have hDc := hD.sub (ws' := [(h0, .inr (7, MO rf 0 0 2 0 0)), (rf 14, .inl (c1, 400, .inl f1)), (rf 15, .inl (c2, 400, .inl f2)), (rf 16, .inl (c3, 400, .inl f3)), (rf 17, .inl (c4, 400, .inl f4))]) [4, 0, 1, 2, 3] (by decide) rfl
  have hKc := hK.sub (tys' := [(c1, .int), (c2, .int), (c3, .int), (c4, .int)]) [0, 1, 2, 3] rfl
  have hFc := va_free (wc := [(h0, .inr (7, MO rf 0 0 2 0 0)), (rf 14, .inl (c1, 400, .inl f1)), (rf 15, .inl (c2, 400, .inl f2)), (rf 16, .inl (c3, 400, .inl f3)), (rf 17, .inl (c4, 400, .inl f4))]) hD hS hA [4, 0, 1, 2, 3] rfl
  refine va_callv (va_runV (As := [.int 6, .int 0, .int 0, .int 0]) (rest := []) ⟨hx, hb, hml, hown, hB⟩ (c_mput2 l dC dI h0 rf c1 c2 c3 c4 f1 f2 f3 f4 6 0 0 0 H.size) (cwV 4 hB (bgV bg255 bg256 bg257 bg225 bg258) rfl rfl rfl (by decide +kernel) ⟨Nat.le_of_ble_eq_true rfl, Nat.le_of_ble_eq_true rfl⟩) ⟨fun a U g mk q => by obtain ⟨q0, q1, qP, qK, qD⟩ := q; exact ⟨q0, q1, qP, va_K.moved (u := U) (U := U.calling g mk a) (Vm.Alike.refl U.vm) qK, qD⟩, va_recv hKc hPc (ci := 7) (q0 := 0) rfl rfl, fun U hU hW => ⟨rfl, by rw [hU], by rw [hU]; exact hPc, va_K.moved hW.alike hKc, hDc.weaken (fun _ _ _ _ => trivial)⟩⟩ rfl rfl hl.1 rfl (lv_room (Nat.le_of_ble_eq_true rfl)) dX7_read_190 ⟨Nat.le_of_ble_eq_true rfl, Nat.le_of_ble_eq_true rfl⟩) hS (fun q _ h => hFc q h) hFc (fun u9 t9 H1 locs ht9 hvm hw hB1 hz1 hk1 hS => ?_)
  obtain ⟨g1_1, g2_2, g3_3, g4_4⟩ := u9
  try dsimp only at hB1 hw
  obtain ⟨hP1, hK1, hD1⟩ := hB1
  rw [ht9] at hP1
  have hK1 := va_K.moved hvm.symm hK1
  obtain ⟨w_5, w_6⟩ := hw
  obtain ⟨hP, hD⟩ := va_join (wr := []) (w1 := [(h0, .inr (7, MO rf 0 0 3 0 0)), (rf 14, .inl (c1, 400, .inl g1_1)), (rf 15, .inl (c2, 400, .inl g2_2)), (rf 16, .inl (c3, 400, .inl g3_3)), (rf 17, .inl (c4, 400, .inl g4_4))]) hP hD [4, 0, 1, 2, 3] [] rfl rfl (by decide) (by decide) hk1 hFc hP1 hD1
  have hK := (hK.sub (tys' := []) [] rfl).app hK1
  generalize H1 = H at hP hS ⊢
  have hP : va_P (dC, dI) vwCl [(h0, .inr (7, MO rf 0 0 3 0 0)), (rf 14, .inl (c1, 400, .inl g1_1)), (rf 15, .inl (c2, 400, .inl g2_2)), (rf 16, .inl (c3, 400, .inl g3_3)), (rf 17, .inl (c4, 400, .inl g4_4))] H := hP
  have hD : va_D A [(h0, .inr (7, MO rf 0 0 3 0 0)), (rf 14, .inl (c1, 400, .inl g1_1)), (rf 15, .inl (c2, 400, .inl g2_2)), (rf 16, .inl (c3, 400, .inl g3_3)), (rf 17, .inl (c4, 400, .inl g4_4))] := hD
  have hK : va_K (dC, dI) vwCl [(c1, .int), (c2, .int), (c3, .int), (c4, .int)] s := hK
  refine lv_aload_n hx hb dX7_read_193 rfl (lv_at hl 4 rfl) ?_
  refine lv_iload_n hx hb dX7_read_194 rfl (lv_at hl 3 rfl) ?_
  refine lv_iconst (v := 2) hx hb dX7_read_195 (by decide) ?_
  refine lv_iadd hx hb dX7_read_196 ?_
  rw [show (5 : Int32) + 2 = 7 by decide]
  refine lv_iconst (v := 0) hx hb dX7_read_197 (by decide) ?_
  refine lv_iconst (v := 0) hx hb dX7_read_198 (by decide) ?_
  refine lv_iload_n hx hb dX7_read_199 rfl (lv_at hl 2 rfl) ?_
  have hPc := hP.sub (ws' := [(h0, .inr (7, MO rf 0 0 3 0 0)), (rf 14, .inl (c1, 400, .inl g1_1)), (rf 15, .inl (c2, 400, .inl g2_2)), (rf 16, .inl (c3, 400, .inl g3_3)), (rf 17, .inl (c4, 400, .inl g4_4))]) [0, 1, 2, 3, 4] rfl
  have hDc := hD.sub (ws' := [(h0, .inr (7, MO rf 0 0 3 0 0)), (rf 14, .inl (c1, 400, .inl g1_1)), (rf 15, .inl (c2, 400, .inl g2_2)), (rf 16, .inl (c3, 400, .inl g3_3)), (rf 17, .inl (c4, 400, .inl g4_4))]) [0, 1, 2, 3, 4] (by decide) rfl
  have hKc := hK.sub (tys' := [(c1, .int), (c2, .int), (c3, .int), (c4, .int)]) [0, 1, 2, 3] rfl
  have hFc := va_free (wc := [(h0, .inr (7, MO rf 0 0 3 0 0)), (rf 14, .inl (c1, 400, .inl g1_1)), (rf 15, .inl (c2, 400, .inl g2_2)), (rf 16, .inl (c3, 400, .inl g3_3)), (rf 17, .inl (c4, 400, .inl g4_4))]) hD hS hA [0, 1, 2, 3, 4] rfl
  refine va_callv (va_runV (As := [.int 7, .int 0, .int 0, .int 0]) (rest := []) ⟨hx, hb, hml, hown, hB⟩ (c_mput3 l dC dI h0 rf c1 c2 c3 c4 g1_1 g2_2 g3_3 g4_4 7 0 0 0 H.size) (cwV 4 hB (bgV bg255 bg256 bg257 bg225 bg258) rfl rfl rfl (by decide +kernel) ⟨Nat.le_of_ble_eq_true rfl, Nat.le_of_ble_eq_true rfl⟩) ⟨fun a U g mk q => by obtain ⟨q0, q1, qP, qK, qD⟩ := q; exact ⟨q0, q1, qP, va_K.moved (u := U) (U := U.calling g mk a) (Vm.Alike.refl U.vm) qK, qD⟩, va_recv hKc hPc (ci := 7) (q0 := 0) rfl rfl, fun U hU hW => ⟨rfl, by rw [hU], by rw [hU]; exact hPc, va_K.moved hW.alike hKc, hDc.weaken (fun _ _ _ _ => trivial)⟩⟩ rfl rfl hl.1 rfl (lv_room (Nat.le_of_ble_eq_true rfl)) dX7_read_200 ⟨Nat.le_of_ble_eq_true rfl, Nat.le_of_ble_eq_true rfl⟩) hS (fun q _ h => hFc q h) hFc (fun u9 t9 H1 locs ht9 hvm hw hB1 hz1 hk1 hS => ?_)
  obtain ⟨g1_7, g2_8, g3_9, g4_10⟩ := u9
  try dsimp only at hB1 hw
  obtain ⟨hP1, hK1, hD1⟩ := hB1
  rw [ht9] at hP1
  have hK1 := va_K.moved hvm.symm hK1
  obtain ⟨w_11, w_12⟩ := hw
  obtain ⟨hP, hD⟩ := va_join (wr := []) (w1 := [(h0, .inr (7, MO rf 0 0 4 0 0)), (rf 14, .inl (c1, 400, .inl g1_7)), (rf 15, .inl (c2, 400, .inl g2_8)), (rf 16, .inl (c3, 400, .inl g3_9)), (rf 17, .inl (c4, 400, .inl g4_10))]) hP hD [0, 1, 2, 3, 4] [] rfl rfl (by decide) (by decide) hk1 hFc hP1 hD1
  have hK := (hK.sub (tys' := []) [] rfl).app hK1
  generalize H1 = H at hP hS ⊢
  have hP : va_P (dC, dI) vwCl [(h0, .inr (7, MO rf 0 0 4 0 0)), (rf 14, .inl (c1, 400, .inl g1_7)), (rf 15, .inl (c2, 400, .inl g2_8)), (rf 16, .inl (c3, 400, .inl g3_9)), (rf 17, .inl (c4, 400, .inl g4_10))] H := hP
  have hD : va_D A [(h0, .inr (7, MO rf 0 0 4 0 0)), (rf 14, .inl (c1, 400, .inl g1_7)), (rf 15, .inl (c2, 400, .inl g2_8)), (rf 16, .inl (c3, 400, .inl g3_9)), (rf 17, .inl (c4, 400, .inl g4_10))] := hD
  have hK : va_K (dC, dI) vwCl [(c1, .int), (c2, .int), (c3, .int), (c4, .int)] s := hK
  refine lv_goto (tgt := 330) hx hb dX7_read_203 (by decide) ?_
  refine lv_iconst (v := 1) hx hb dX7_read_330 (by decide) ?_
  have hP9 := hP.sub (ws' := [(h0, .inr (7, MO rf 0 0 4 0 0)), (rf 14, .inl (c1, 400, .inl g1_7)), (rf 15, .inl (c2, 400, .inl g2_8)), (rf 16, .inl (c3, 400, .inl g3_9)), (rf 17, .inl (c4, 400, .inl g4_10))]) [0, 1, 2, 3, 4] rfl
  have hD9 := hD.sub (ws' := [(h0, .inr (7, MO rf 0 0 4 0 0)), (rf 14, .inl (c1, 400, .inl g1_7)), (rf 15, .inl (c2, 400, .inl g2_8)), (rf 16, .inl (c3, 400, .inl g3_9)), (rf 17, .inl (c4, 400, .inl g4_10))]) [0, 1, 2, 3, 4] (by decide) rfl
  have hK9 := hK.sub (tys' := [(c1, .int), (c2, .int), (c3, .int), (c4, .int)]) [0, 1, 2, 3] rfl
  refine W.widen (k := 0) (n := 0) (by decide) (by decide) ?_
  exact W.zret (v := 1) hx hb hr (by decide) (fun t9 ht9 hW => ⟨⟨1, (g1_7, g2_8, g3_9, g4_10), rfl, ⟨rfl, w_11, w_12⟩, by rw [ht9]; exact hP9, va_K.moved hW.alike hK9, hD9⟩, hS.F ht9⟩) hS.2.2 dX7_read_331
set_option maxHeartbeats 4000000 in
set_option maxRecDepth 100000 in
theorem c_mread3_7 (l : Launch) (dC : Nat → ClassId) (dI : Nat → Nat → Nat) (h0 : Nat) (rf : Nat → Nat) (c1 : ClassId) (c2 : ClassId) (c3 : ClassId) (c4 : ClassId) (f1 : Nat → Int32) (f2 : Nat → Int32) (f3 : Nat → Int32) (f4 : Nat → Int32) (sz : Nat) (h1 : f1 3 = 7) (h4 : f4 3 = 0) : Met l yX7_read (Cond.code yX7_read cX7_read 5 (some .boolean) :: BG) ({ frames := 1, cells := 0, slots := 0, locals := 24 }) (va_Pc [.ref h0] (fun U => U.heap.size = sz ∧ va_P (dC, dI) vwCl [(h0, .inr (7, MO rf 0 0 4 0 0)), (rf 14, .inl (c1, 400, .inl f1)), (rf 15, .inl (c2, 400, .inl f2)), (rf 16, .inl (c3, 400, .inl f3)), (rf 17, .inl (c4, 400, .inl f4))] U.heap ∧ va_K (dC, dI) vwCl [(c1, .int), (c2, .int), (c3, .int), (c4, .int)] U ∧ va_D (fun _ => True) [(h0, .inr (7, MO rf 0 0 4 0 0)), (rf 14, .inl (c1, 400, .inl f1)), (rf 15, .inl (c2, 400, .inl f2)), (rf 16, .inl (c3, 400, .inl f3)), (rf 17, .inl (c4, 400, .inl f4))])) (va_Qi (fun (r9 : Int32) (u9 : (Nat → Int32) × (Nat → Int32) × (Nat → Int32) × (Nat → Int32)) => match u9 with | (g1, g2, g3, g4) => r9 = 1 ∧ g1 4 = 9 ∧ g4 4 = 0) (fun (u9 : (Nat → Int32) × (Nat → Int32) × (Nat → Int32) × (Nat → Int32)) (t9 : State) => match u9 with | (g1, g2, g3, g4) => va_P (dC, dI) vwCl [(h0, .inr (7, MO rf 0 0 5 0 0)), (rf 14, .inl (c1, 400, .inl g1)), (rf 15, .inl (c2, 400, .inl g2)), (rf 16, .inl (c3, 400, .inl g3)), (rf 17, .inl (c4, 400, .inl g4))] t9.heap ∧ va_K (dC, dI) vwCl [(c1, .int), (c2, .int), (c3, .int), (c4, .int)] t9 ∧ va_D (va_A [(h0, .inr (7, MO rf 0 0 4 0 0)), (rf 14, .inl (c1, 400, .inl f1)), (rf 15, .inl (c2, 400, .inl f2)), (rf 16, .inl (c3, 400, .inl f3)), (rf 17, .inl (c4, 400, .inl f4))] sz) [(h0, .inr (7, MO rf 0 0 5 0 0)), (rf 14, .inl (c1, 400, .inl g1)), (rf 15, .inl (c2, 400, .inl g2)), (rf 16, .inl (c3, 400, .inl g3)), (rf 17, .inl (c4, 400, .inl g4))]) (va_A [(h0, .inr (7, MO rf 0 0 4 0 0)), (rf 14, .inl (c1, 400, .inl f1)), (rf 15, .inl (c2, 400, .inl f2)), (rf 16, .inl (c3, 400, .inl f3)), (rf 17, .inl (c4, 400, .inl f4))] sz)) 0 0 (va_A [(h0, .inr (7, MO rf 0 0 4 0 0)), (rf 14, .inl (c1, 400, .inl f1)), (rf 15, .inl (c2, 400, .inl f2)), (rf 16, .inl (c3, 400, .inl f3)), (rf 17, .inl (c4, 400, .inl f4))] sz) := by
  refine Met.ofW (cc := cX7_read) (maxL := 5) (ret := (some .boolean)) (by decide) rfl ?_
  intro p e s m args below meth c s₁ B hml hv
  obtain ⟨rfl, hsz, hP, hK, hD0⟩ := hv
  have hx := B.exec
  have hb := B.bytes
  have hr := B.returns
  have hts := atoms_spec (ws := Cond.code yX7_read cX7_read 5 (some .boolean) :: BG) B.pre
  have hB : ∀ w ∈ BG, w.before _ s = true := fun w h => hts w (List.mem_cons_of_mem _ h)
  have hown : s.vm.findClass RX7 = some m.cls := findClass_of_methodNamed B.named
  have hlocks := B.notSynchronized
  subst hsz
  have hD := hD0.self (sz := s.heap.size)
  generalize hAe : va_A [(h0, .inr (7, MO rf 0 0 4 0 0)), (rf 14, .inl (c1, 400, .inl f1)), (rf 15, .inl (c2, 400, .inl f2)), (rf 16, .inl (c3, 400, .inl f3)), (rf 17, .inl (c4, 400, .inl f4))] s.heap.size = A at hD ⊢
  have hA : ∀ q : Nat, s.heap.size ≤ q → A q := fun q h => by rw [← hAe]; exact Or.inr h
  have hS : va_S A s.heap s.heap [] := va_S.rf
  have hP : va_P (dC, dI) vwCl [(h0, .inr (7, MO rf 0 0 4 0 0)), (rf 14, .inl (c1, 400, .inl f1)), (rf 15, .inl (c2, 400, .inl f2)), (rf 16, .inl (c3, 400, .inl f3)), (rf 17, .inl (c4, 400, .inl f4))] s.heap := hP
  have hl := lv_entry ([.ref h0]) (n := 5) (Nat.le_of_ble_eq_true rfl)
  rw [lg_entry_eq]
  generalize (lg_sl ([.ref h0]) ++ List.replicate (5 - (lg_sl ([.ref h0])).length) Slot.unset).toArray = ls at hl ⊢
  have hl : lv_has ls 5 [(0, .ref h0)] := hl
  refine lv_aload_n hx hb dX7_read_0 rfl (lv_at hl 0 rfl) ?_
  refine lv_dup hx hb dX7_read_1 rfl ?_
  refine va_get (D := (dC, dI)) (ci := 7) (v := .int 4) (C := RX7) (T := TX7) (N := 55) hx hb hB inB7 hown hK hP 0 rfl rfl 18 (by decide) (hB _ bg238) (fun _ h9 => h9) rfl dX7_read_2 ?_
  refine lv_iconst (v := 1) hx hb dX7_read_5 (by decide) ?_
  refine lv_isub hx hb dX7_read_6 ?_
  rw [show (4 : Int32) - 1 = 3 by decide]
  refine va_put (D := (dC, dI)) (ci := 7) (v := .int 3) (ty := .int) (C := RX7) (T := TX7) (N := 55) hx hb hB inB7 tyX7 tyX7_ok nmX7 hown hK hP hD hS 0 rfl rfl 18 (by decide) (hB _ bg238) (fun _ h9 => h9) rfl (by decide +kernel) rfl rfl (Nat.le_of_ble_eq_true rfl) dX7_read_7 (fun H locs hP hD hS => ?_)
  have hP : va_P (dC, dI) vwCl [(h0, .inr (7, MO rf 0 0 3 0 0)), (rf 14, .inl (c1, 400, .inl f1)), (rf 15, .inl (c2, 400, .inl f2)), (rf 16, .inl (c3, 400, .inl f3)), (rf 17, .inl (c4, 400, .inl f4))] H := hP
  have hD : va_D A [(h0, .inr (7, MO rf 0 0 3 0 0)), (rf 14, .inl (c1, 400, .inl f1)), (rf 15, .inl (c2, 400, .inl f2)), (rf 16, .inl (c3, 400, .inl f3)), (rf 17, .inl (c4, 400, .inl f4))] := hD
  refine lv_aload_n hx hb dX7_read_10 rfl (lv_at hl 0 rfl) ?_
  refine va_get (D := (dC, dI)) (ci := 7) (v := .ref (rf 14)) (C := RX7) (T := TX7) (N := 55) hx hb hB inB7 hown hK hP 0 rfl rfl 14 (by decide) (hB _ bg194) (fun _ h9 => h9) rfl dX7_read_11 ?_
  refine lv_aload_n hx hb dX7_read_14 rfl (lv_at hl 0 rfl) ?_
  refine va_get (D := (dC, dI)) (ci := 7) (v := .int 3) (C := RX7) (T := TX7) (N := 55) hx hb hB inB7 hown hK hP 0 rfl rfl 18 (by decide) (hB _ bg238) (fun _ h9 => h9) rfl dX7_read_15 ?_
  refine va_iald hx hb hK hP 1 0 rfl rfl (i := 3) (by rw [vp_in_iff]; decide) dX7_read_18 ?_
  rw [show f1 (3 : Int32).toNatClampNeg = 7 from (by rw [show (3 : Int32).toNatClampNeg = 3 by decide]; exact h1)]
  refine lv_istore_n (lv' := [(1, .int 7), (0, .ref h0)]) hx hb dX7_read_19 rfl hl (by decide) rfl (fun ls hl => ?_)
  refine lv_aload_n hx hb dX7_read_20 rfl (lv_at hl 1 rfl) ?_
  refine va_get (D := (dC, dI)) (ci := 7) (v := .ref (rf 17)) (C := RX7) (T := TX7) (N := 55) hx hb hB inB7 hown hK hP 0 rfl rfl 17 (by decide) (hB _ bg197) (fun _ h9 => h9) rfl dX7_read_21 ?_
  refine lv_aload_n hx hb dX7_read_24 rfl (lv_at hl 1 rfl) ?_
  refine va_get (D := (dC, dI)) (ci := 7) (v := .int 3) (C := RX7) (T := TX7) (N := 55) hx hb hB inB7 hown hK hP 0 rfl rfl 18 (by decide) (hB _ bg238) (fun _ h9 => h9) rfl dX7_read_25 ?_
  refine va_iald hx hb hK hP 4 3 rfl rfl (i := 3) (by rw [vp_in_iff]; decide) dX7_read_28 ?_
  rw [show f4 (3 : Int32).toNatClampNeg = 0 from (by rw [show (3 : Int32).toNatClampNeg = 3 by decide]; exact h4)]
  refine lv_istore_n (lv' := [(2, .int 0), (1, .int 7), (0, .ref h0)]) hx hb dX7_read_29 rfl hl (by decide) rfl (fun ls hl => ?_)
  refine lv_aload_n hx hb dX7_read_30 rfl (lv_at hl 2 rfl) ?_
  refine va_get (D := (dC, dI)) (ci := 7) (v := .ref (rf 15)) (C := RX7) (T := TX7) (N := 55) hx hb hB inB7 hown hK hP 0 rfl rfl 15 (by decide) (hB _ bg195) (fun _ h9 => h9) rfl dX7_read_31 ?_
  refine lv_aload_n hx hb dX7_read_34 rfl (lv_at hl 2 rfl) ?_
  refine va_get (D := (dC, dI)) (ci := 7) (v := .int 3) (C := RX7) (T := TX7) (N := 55) hx hb hB inB7 hown hK hP 0 rfl rfl 18 (by decide) (hB _ bg238) (fun _ h9 => h9) rfl dX7_read_35 ?_
  refine va_iald hx hb hK hP 2 1 rfl rfl (i := 3) (by rw [vp_in_iff]; decide) dX7_read_38 ?_
  refine lv_istore_n (lv' := [(3, .int (f2 (3 : Int32).toNatClampNeg)), (2, .int 0), (1, .int 7), (0, .ref h0)]) hx hb dX7_read_39 rfl hl (by decide) rfl (fun ls hl => ?_)
  refine lv_iload_n hx hb dX7_read_40 rfl (lv_at hl 1 rfl) ?_
  refine lv_bipush (v := 7) hx hb dX7_read_41 (by decide) ?_
  refine lv_icmp_le (tgt := 68) hx hb dX7_read_43 (by decide) (fun _ => ?_) (fun c9 => absurd c9 (by decide))
  refine lv_aload_n hx hb dX7_read_68 rfl (lv_at hl 3 rfl) ?_
  have hPc := hP.sub (ws' := [(h0, .inr (7, MO rf 0 0 3 0 0))]) [0] rfl
  have hDc := hD.sub (ws' := [(h0, .inr (7, MO rf 0 0 3 0 0))]) [0] (by decide) rfl
  have hKc := hK.sub (tys' := []) [] rfl
  have hFc := va_free (wc := [(h0, .inr (7, MO rf 0 0 3 0 0))]) hD hS hA [0] rfl
  refine va_calli (va_runV (As := []) (rest := []) ⟨hx, hb, hml, hown, hB⟩ (c_mlook l dC dI h0 rf 3 H.size) (cwV 0 hB (bgV bg244 bg245 bg246 bg225 bg247) rfl rfl rfl (by decide +kernel) ⟨Nat.le_of_ble_eq_true rfl, Nat.le_of_ble_eq_true rfl⟩) ⟨fun a U g mk q => by obtain ⟨q0, q1, qP, qK, qD⟩ := q; exact ⟨q0, q1, qP, va_K.moved (u := U) (U := U.calling g mk a) (Vm.Alike.refl U.vm) qK, qD⟩, va_recv hKc hPc (ci := 7) (q0 := 0) rfl rfl, fun U hU hW => ⟨rfl, by rw [hU], by rw [hU]; exact hPc, va_K.moved hW.alike hKc, hDc.weaken (fun _ _ _ _ => trivial)⟩⟩ rfl rfl hl.1 rfl (lv_room (Nat.le_of_ble_eq_true rfl)) dX7_read_69 ⟨Nat.le_of_ble_eq_true rfl, Nat.le_of_ble_eq_true rfl⟩) hS (fun q _ h => hFc q h) hFc (fun r9 u9 t9 H1 locs ht9 hvm hw hB1 hz1 hk1 hS => ?_)
  try dsimp only at hB1 hw
  obtain ⟨hP1, hK1, hD1⟩ := hB1
  rw [ht9] at hP1
  have hK1 := va_K.moved hvm.symm hK1
  obtain rfl := hw
  obtain ⟨hP, hD⟩ := va_join (wr := [(rf 14, .inl (c1, 400, .inl f1)), (rf 15, .inl (c2, 400, .inl f2)), (rf 16, .inl (c3, 400, .inl f3)), (rf 17, .inl (c4, 400, .inl f4))]) (w1 := [(h0, .inr (7, MO rf 0 0 3 0 0))]) hP hD [0] [1, 2, 3, 4] rfl rfl (by decide) (by decide) hk1 hFc hP1 hD1
  have hK := (hK.sub (tys' := [(c1, .int), (c2, .int), (c3, .int), (c4, .int)]) [0, 1, 2, 3] rfl).app hK1
  generalize H1 = H at hP hS ⊢
  have hP : va_P (dC, dI) vwCl [(rf 14, .inl (c1, 400, .inl f1)), (rf 15, .inl (c2, 400, .inl f2)), (rf 16, .inl (c3, 400, .inl f3)), (rf 17, .inl (c4, 400, .inl f4)), (h0, .inr (7, MO rf 0 0 3 0 0))] H := hP
  have hD : va_D A [(rf 14, .inl (c1, 400, .inl f1)), (rf 15, .inl (c2, 400, .inl f2)), (rf 16, .inl (c3, 400, .inl f3)), (rf 17, .inl (c4, 400, .inl f4)), (h0, .inr (7, MO rf 0 0 3 0 0))] := hD
  have hK : va_K (dC, dI) vwCl [(c1, .int), (c2, .int), (c3, .int), (c4, .int)] s := hK
  refine lv_istore (lv' := [(4, .int (-1)), (3, .int (f2 (3 : Int32).toNatClampNeg)), (2, .int 0), (1, .int 7), (0, .ref h0)]) hx hb dX7_read_72 hl (by decide) rfl (fun ls hl => ?_)
  refine lv_iload_n hx hb dX7_read_74 rfl (lv_at hl 3 rfl) ?_
  refine lv_if_ne (tgt := 156) hx hb dX7_read_75 (by decide) (fun _ => ?_) (fun c9 => absurd c9 (by decide))
  refine lv_iload_n hx hb dX7_read_156 rfl (lv_at hl 3 rfl) ?_
  refine lv_iconst (v := 1) hx hb dX7_read_157 (by decide) ?_
  refine lv_icmp_eq (tgt := 183) hx hb dX7_read_158 (by decide) (fun c9 => absurd c9 (by decide)) (fun _ => ?_)
  refine lv_iload_n hx hb dX7_read_161 rfl (lv_at hl 3 rfl) ?_
  refine lv_iconst (v := 3) hx hb dX7_read_162 (by decide) ?_
  refine lv_icmp_eq (tgt := 183) hx hb dX7_read_163 (by decide) (fun c9 => absurd c9 (by decide)) (fun _ => ?_)
  refine lv_iload_n hx hb dX7_read_166 rfl (lv_at hl 3 rfl) ?_
  refine lv_iconst (v := 5) hx hb dX7_read_167 (by decide) ?_
  refine lv_icmp_eq (tgt := 183) hx hb dX7_read_168 (by decide) (fun c9 => absurd c9 (by decide)) (fun _ => ?_)
  refine lv_iload_n hx hb dX7_read_171 rfl (lv_at hl 3 rfl) ?_
  refine lv_bipush (v := 7) hx hb dX7_read_172 (by decide) ?_
  refine lv_icmp_eq (tgt := 183) hx hb dX7_read_174 (by decide) (fun _ => ?_) (fun c9 => absurd c9 (by decide))
  refine lv_aload_n hx hb dX7_read_183 rfl (lv_at hl 4 rfl) ?_
  refine lv_iload_n hx hb dX7_read_184 rfl (lv_at hl 3 rfl) ?_
  refine lv_iconst (v := 1) hx hb dX7_read_185 (by decide) ?_
  refine lv_iadd hx hb dX7_read_186 ?_
  rw [show (7 : Int32) + 1 = 8 by decide]
  refine lv_iconst (v := 0) hx hb dX7_read_187 (by decide) ?_
  refine lv_iconst (v := 0) hx hb dX7_read_188 (by decide) ?_
  refine lv_iload_n hx hb dX7_read_189 rfl (lv_at hl 2 rfl) ?_
  have hPc := hP.sub (ws' := [(h0, .inr (7, MO rf 0 0 3 0 0)), (rf 14, .inl (c1, 400, .inl f1)), (rf 15, .inl (c2, 400, .inl f2)), (rf 16, .inl (c3, 400, .inl f3)), (rf 17, .inl (c4, 400, .inl f4))]) [4, 0, 1, 2, 3] rfl
  have hDc := hD.sub (ws' := [(h0, .inr (7, MO rf 0 0 3 0 0)), (rf 14, .inl (c1, 400, .inl f1)), (rf 15, .inl (c2, 400, .inl f2)), (rf 16, .inl (c3, 400, .inl f3)), (rf 17, .inl (c4, 400, .inl f4))]) [4, 0, 1, 2, 3] (by decide) rfl
  have hKc := hK.sub (tys' := [(c1, .int), (c2, .int), (c3, .int), (c4, .int)]) [0, 1, 2, 3] rfl
  have hFc := va_free (wc := [(h0, .inr (7, MO rf 0 0 3 0 0)), (rf 14, .inl (c1, 400, .inl f1)), (rf 15, .inl (c2, 400, .inl f2)), (rf 16, .inl (c3, 400, .inl f3)), (rf 17, .inl (c4, 400, .inl f4))]) hD hS hA [4, 0, 1, 2, 3] rfl
  refine va_callv (va_runV (As := [.int 8, .int 0, .int 0, .int 0]) (rest := []) ⟨hx, hb, hml, hown, hB⟩ (c_mput3 l dC dI h0 rf c1 c2 c3 c4 f1 f2 f3 f4 8 0 0 0 H.size) (cwV 4 hB (bgV bg255 bg256 bg257 bg225 bg258) rfl rfl rfl (by decide +kernel) ⟨Nat.le_of_ble_eq_true rfl, Nat.le_of_ble_eq_true rfl⟩) ⟨fun a U g mk q => by obtain ⟨q0, q1, qP, qK, qD⟩ := q; exact ⟨q0, q1, qP, va_K.moved (u := U) (U := U.calling g mk a) (Vm.Alike.refl U.vm) qK, qD⟩, va_recv hKc hPc (ci := 7) (q0 := 0) rfl rfl, fun U hU hW => ⟨rfl, by rw [hU], by rw [hU]; exact hPc, va_K.moved hW.alike hKc, hDc.weaken (fun _ _ _ _ => trivial)⟩⟩ rfl rfl hl.1 rfl (lv_room (Nat.le_of_ble_eq_true rfl)) dX7_read_190 ⟨Nat.le_of_ble_eq_true rfl, Nat.le_of_ble_eq_true rfl⟩) hS (fun q _ h => hFc q h) hFc (fun u9 t9 H1 locs ht9 hvm hw hB1 hz1 hk1 hS => ?_)
  obtain ⟨g1_1, g2_2, g3_3, g4_4⟩ := u9
  try dsimp only at hB1 hw
  obtain ⟨hP1, hK1, hD1⟩ := hB1
  rw [ht9] at hP1
  have hK1 := va_K.moved hvm.symm hK1
  obtain ⟨w_5, w_6⟩ := hw
  obtain ⟨hP, hD⟩ := va_join (wr := []) (w1 := [(h0, .inr (7, MO rf 0 0 4 0 0)), (rf 14, .inl (c1, 400, .inl g1_1)), (rf 15, .inl (c2, 400, .inl g2_2)), (rf 16, .inl (c3, 400, .inl g3_3)), (rf 17, .inl (c4, 400, .inl g4_4))]) hP hD [4, 0, 1, 2, 3] [] rfl rfl (by decide) (by decide) hk1 hFc hP1 hD1
  have hK := (hK.sub (tys' := []) [] rfl).app hK1
  generalize H1 = H at hP hS ⊢
  have hP : va_P (dC, dI) vwCl [(h0, .inr (7, MO rf 0 0 4 0 0)), (rf 14, .inl (c1, 400, .inl g1_1)), (rf 15, .inl (c2, 400, .inl g2_2)), (rf 16, .inl (c3, 400, .inl g3_3)), (rf 17, .inl (c4, 400, .inl g4_4))] H := hP
  have hD : va_D A [(h0, .inr (7, MO rf 0 0 4 0 0)), (rf 14, .inl (c1, 400, .inl g1_1)), (rf 15, .inl (c2, 400, .inl g2_2)), (rf 16, .inl (c3, 400, .inl g3_3)), (rf 17, .inl (c4, 400, .inl g4_4))] := hD
  have hK : va_K (dC, dI) vwCl [(c1, .int), (c2, .int), (c3, .int), (c4, .int)] s := hK
  refine lv_aload_n hx hb dX7_read_193 rfl (lv_at hl 4 rfl) ?_
  refine lv_iload_n hx hb dX7_read_194 rfl (lv_at hl 3 rfl) ?_
  refine lv_iconst (v := 2) hx hb dX7_read_195 (by decide) ?_
  refine lv_iadd hx hb dX7_read_196 ?_
  rw [show (7 : Int32) + 2 = 9 by decide]
  refine lv_iconst (v := 0) hx hb dX7_read_197 (by decide) ?_
  refine lv_iconst (v := 0) hx hb dX7_read_198 (by decide) ?_
  refine lv_iload_n hx hb dX7_read_199 rfl (lv_at hl 2 rfl) ?_
  have hPc := hP.sub (ws' := [(h0, .inr (7, MO rf 0 0 4 0 0)), (rf 14, .inl (c1, 400, .inl g1_1)), (rf 15, .inl (c2, 400, .inl g2_2)), (rf 16, .inl (c3, 400, .inl g3_3)), (rf 17, .inl (c4, 400, .inl g4_4))]) [0, 1, 2, 3, 4] rfl
  have hDc := hD.sub (ws' := [(h0, .inr (7, MO rf 0 0 4 0 0)), (rf 14, .inl (c1, 400, .inl g1_1)), (rf 15, .inl (c2, 400, .inl g2_2)), (rf 16, .inl (c3, 400, .inl g3_3)), (rf 17, .inl (c4, 400, .inl g4_4))]) [0, 1, 2, 3, 4] (by decide) rfl
  have hKc := hK.sub (tys' := [(c1, .int), (c2, .int), (c3, .int), (c4, .int)]) [0, 1, 2, 3] rfl
  have hFc := va_free (wc := [(h0, .inr (7, MO rf 0 0 4 0 0)), (rf 14, .inl (c1, 400, .inl g1_1)), (rf 15, .inl (c2, 400, .inl g2_2)), (rf 16, .inl (c3, 400, .inl g3_3)), (rf 17, .inl (c4, 400, .inl g4_4))]) hD hS hA [0, 1, 2, 3, 4] rfl
  refine va_callv (va_runV (As := [.int 9, .int 0, .int 0, .int 0]) (rest := []) ⟨hx, hb, hml, hown, hB⟩ (c_mput4 l dC dI h0 rf c1 c2 c3 c4 g1_1 g2_2 g3_3 g4_4 9 0 0 0 H.size) (cwV 4 hB (bgV bg255 bg256 bg257 bg225 bg258) rfl rfl rfl (by decide +kernel) ⟨Nat.le_of_ble_eq_true rfl, Nat.le_of_ble_eq_true rfl⟩) ⟨fun a U g mk q => by obtain ⟨q0, q1, qP, qK, qD⟩ := q; exact ⟨q0, q1, qP, va_K.moved (u := U) (U := U.calling g mk a) (Vm.Alike.refl U.vm) qK, qD⟩, va_recv hKc hPc (ci := 7) (q0 := 0) rfl rfl, fun U hU hW => ⟨rfl, by rw [hU], by rw [hU]; exact hPc, va_K.moved hW.alike hKc, hDc.weaken (fun _ _ _ _ => trivial)⟩⟩ rfl rfl hl.1 rfl (lv_room (Nat.le_of_ble_eq_true rfl)) dX7_read_200 ⟨Nat.le_of_ble_eq_true rfl, Nat.le_of_ble_eq_true rfl⟩) hS (fun q _ h => hFc q h) hFc (fun u9 t9 H1 locs ht9 hvm hw hB1 hz1 hk1 hS => ?_)
  obtain ⟨g1_7, g2_8, g3_9, g4_10⟩ := u9
  try dsimp only at hB1 hw
  obtain ⟨hP1, hK1, hD1⟩ := hB1
  rw [ht9] at hP1
  have hK1 := va_K.moved hvm.symm hK1
  obtain ⟨w_11, w_12⟩ := hw
  obtain ⟨hP, hD⟩ := va_join (wr := []) (w1 := [(h0, .inr (7, MO rf 0 0 5 0 0)), (rf 14, .inl (c1, 400, .inl g1_7)), (rf 15, .inl (c2, 400, .inl g2_8)), (rf 16, .inl (c3, 400, .inl g3_9)), (rf 17, .inl (c4, 400, .inl g4_10))]) hP hD [0, 1, 2, 3, 4] [] rfl rfl (by decide) (by decide) hk1 hFc hP1 hD1
  have hK := (hK.sub (tys' := []) [] rfl).app hK1
  generalize H1 = H at hP hS ⊢
  have hP : va_P (dC, dI) vwCl [(h0, .inr (7, MO rf 0 0 5 0 0)), (rf 14, .inl (c1, 400, .inl g1_7)), (rf 15, .inl (c2, 400, .inl g2_8)), (rf 16, .inl (c3, 400, .inl g3_9)), (rf 17, .inl (c4, 400, .inl g4_10))] H := hP
  have hD : va_D A [(h0, .inr (7, MO rf 0 0 5 0 0)), (rf 14, .inl (c1, 400, .inl g1_7)), (rf 15, .inl (c2, 400, .inl g2_8)), (rf 16, .inl (c3, 400, .inl g3_9)), (rf 17, .inl (c4, 400, .inl g4_10))] := hD
  have hK : va_K (dC, dI) vwCl [(c1, .int), (c2, .int), (c3, .int), (c4, .int)] s := hK
  refine lv_goto (tgt := 330) hx hb dX7_read_203 (by decide) ?_
  refine lv_iconst (v := 1) hx hb dX7_read_330 (by decide) ?_
  have hP9 := hP.sub (ws' := [(h0, .inr (7, MO rf 0 0 5 0 0)), (rf 14, .inl (c1, 400, .inl g1_7)), (rf 15, .inl (c2, 400, .inl g2_8)), (rf 16, .inl (c3, 400, .inl g3_9)), (rf 17, .inl (c4, 400, .inl g4_10))]) [0, 1, 2, 3, 4] rfl
  have hD9 := hD.sub (ws' := [(h0, .inr (7, MO rf 0 0 5 0 0)), (rf 14, .inl (c1, 400, .inl g1_7)), (rf 15, .inl (c2, 400, .inl g2_8)), (rf 16, .inl (c3, 400, .inl g3_9)), (rf 17, .inl (c4, 400, .inl g4_10))]) [0, 1, 2, 3, 4] (by decide) rfl
  have hK9 := hK.sub (tys' := [(c1, .int), (c2, .int), (c3, .int), (c4, .int)]) [0, 1, 2, 3] rfl
  refine W.widen (k := 0) (n := 0) (by decide) (by decide) ?_
  exact W.zret (v := 1) hx hb hr (by decide) (fun t9 ht9 hW => ⟨⟨1, (g1_7, g2_8, g3_9, g4_10), rfl, ⟨rfl, w_11, w_12⟩, by rw [ht9]; exact hP9, va_K.moved hW.alike hK9, hD9⟩, hS.F ht9⟩) hS.2.2 dX7_read_331
set_option maxHeartbeats 4000000 in
set_option maxRecDepth 100000 in
theorem c_mread4_9 (l : Launch) (dC : Nat → ClassId) (dI : Nat → Nat → Nat) (h0 : Nat) (rf : Nat → Nat) (c1 : ClassId) (c2 : ClassId) (c3 : ClassId) (c4 : ClassId) (f1 : Nat → Int32) (f2 : Nat → Int32) (f3 : Nat → Int32) (f4 : Nat → Int32) (sz : Nat) (h1 : f1 4 = 9) (h4 : f4 4 = 0) : Met l yX7_read (Cond.code yX7_read cX7_read 5 (some .boolean) :: BG) ({ frames := 1, cells := 0, slots := 0, locals := 24 }) (va_Pc [.ref h0] (fun U => U.heap.size = sz ∧ va_P (dC, dI) vwCl [(h0, .inr (7, MO rf 0 0 5 0 0)), (rf 14, .inl (c1, 400, .inl f1)), (rf 15, .inl (c2, 400, .inl f2)), (rf 16, .inl (c3, 400, .inl f3)), (rf 17, .inl (c4, 400, .inl f4))] U.heap ∧ va_K (dC, dI) vwCl [(c1, .int), (c2, .int), (c3, .int), (c4, .int)] U ∧ va_D (fun _ => True) [(h0, .inr (7, MO rf 0 0 5 0 0)), (rf 14, .inl (c1, 400, .inl f1)), (rf 15, .inl (c2, 400, .inl f2)), (rf 16, .inl (c3, 400, .inl f3)), (rf 17, .inl (c4, 400, .inl f4))])) (va_Qi (fun (r9 : Int32) (u9 : (Nat → Int32) × (Nat → Int32) × (Nat → Int32) × (Nat → Int32)) => match u9 with | (g1, g2, g3, g4) => r9 = 1 ∧ g1 5 = 11 ∧ g4 5 = 0) (fun (u9 : (Nat → Int32) × (Nat → Int32) × (Nat → Int32) × (Nat → Int32)) (t9 : State) => match u9 with | (g1, g2, g3, g4) => va_P (dC, dI) vwCl [(h0, .inr (7, MO rf 0 0 6 0 0)), (rf 14, .inl (c1, 400, .inl g1)), (rf 15, .inl (c2, 400, .inl g2)), (rf 16, .inl (c3, 400, .inl g3)), (rf 17, .inl (c4, 400, .inl g4))] t9.heap ∧ va_K (dC, dI) vwCl [(c1, .int), (c2, .int), (c3, .int), (c4, .int)] t9 ∧ va_D (va_A [(h0, .inr (7, MO rf 0 0 5 0 0)), (rf 14, .inl (c1, 400, .inl f1)), (rf 15, .inl (c2, 400, .inl f2)), (rf 16, .inl (c3, 400, .inl f3)), (rf 17, .inl (c4, 400, .inl f4))] sz) [(h0, .inr (7, MO rf 0 0 6 0 0)), (rf 14, .inl (c1, 400, .inl g1)), (rf 15, .inl (c2, 400, .inl g2)), (rf 16, .inl (c3, 400, .inl g3)), (rf 17, .inl (c4, 400, .inl g4))]) (va_A [(h0, .inr (7, MO rf 0 0 5 0 0)), (rf 14, .inl (c1, 400, .inl f1)), (rf 15, .inl (c2, 400, .inl f2)), (rf 16, .inl (c3, 400, .inl f3)), (rf 17, .inl (c4, 400, .inl f4))] sz)) 0 0 (va_A [(h0, .inr (7, MO rf 0 0 5 0 0)), (rf 14, .inl (c1, 400, .inl f1)), (rf 15, .inl (c2, 400, .inl f2)), (rf 16, .inl (c3, 400, .inl f3)), (rf 17, .inl (c4, 400, .inl f4))] sz) := by
  refine Met.ofW (cc := cX7_read) (maxL := 5) (ret := (some .boolean)) (by decide) rfl ?_
  intro p e s m args below meth c s₁ B hml hv
  obtain ⟨rfl, hsz, hP, hK, hD0⟩ := hv
  have hx := B.exec
  have hb := B.bytes
  have hr := B.returns
  have hts := atoms_spec (ws := Cond.code yX7_read cX7_read 5 (some .boolean) :: BG) B.pre
  have hB : ∀ w ∈ BG, w.before _ s = true := fun w h => hts w (List.mem_cons_of_mem _ h)
  have hown : s.vm.findClass RX7 = some m.cls := findClass_of_methodNamed B.named
  have hlocks := B.notSynchronized
  subst hsz
  have hD := hD0.self (sz := s.heap.size)
  generalize hAe : va_A [(h0, .inr (7, MO rf 0 0 5 0 0)), (rf 14, .inl (c1, 400, .inl f1)), (rf 15, .inl (c2, 400, .inl f2)), (rf 16, .inl (c3, 400, .inl f3)), (rf 17, .inl (c4, 400, .inl f4))] s.heap.size = A at hD ⊢
  have hA : ∀ q : Nat, s.heap.size ≤ q → A q := fun q h => by rw [← hAe]; exact Or.inr h
  have hS : va_S A s.heap s.heap [] := va_S.rf
  have hP : va_P (dC, dI) vwCl [(h0, .inr (7, MO rf 0 0 5 0 0)), (rf 14, .inl (c1, 400, .inl f1)), (rf 15, .inl (c2, 400, .inl f2)), (rf 16, .inl (c3, 400, .inl f3)), (rf 17, .inl (c4, 400, .inl f4))] s.heap := hP
  have hl := lv_entry ([.ref h0]) (n := 5) (Nat.le_of_ble_eq_true rfl)
  rw [lg_entry_eq]
  generalize (lg_sl ([.ref h0]) ++ List.replicate (5 - (lg_sl ([.ref h0])).length) Slot.unset).toArray = ls at hl ⊢
  have hl : lv_has ls 5 [(0, .ref h0)] := hl
  refine lv_aload_n hx hb dX7_read_0 rfl (lv_at hl 0 rfl) ?_
  refine lv_dup hx hb dX7_read_1 rfl ?_
  refine va_get (D := (dC, dI)) (ci := 7) (v := .int 5) (C := RX7) (T := TX7) (N := 55) hx hb hB inB7 hown hK hP 0 rfl rfl 18 (by decide) (hB _ bg238) (fun _ h9 => h9) rfl dX7_read_2 ?_
  refine lv_iconst (v := 1) hx hb dX7_read_5 (by decide) ?_
  refine lv_isub hx hb dX7_read_6 ?_
  rw [show (5 : Int32) - 1 = 4 by decide]
  refine va_put (D := (dC, dI)) (ci := 7) (v := .int 4) (ty := .int) (C := RX7) (T := TX7) (N := 55) hx hb hB inB7 tyX7 tyX7_ok nmX7 hown hK hP hD hS 0 rfl rfl 18 (by decide) (hB _ bg238) (fun _ h9 => h9) rfl (by decide +kernel) rfl rfl (Nat.le_of_ble_eq_true rfl) dX7_read_7 (fun H locs hP hD hS => ?_)
  have hP : va_P (dC, dI) vwCl [(h0, .inr (7, MO rf 0 0 4 0 0)), (rf 14, .inl (c1, 400, .inl f1)), (rf 15, .inl (c2, 400, .inl f2)), (rf 16, .inl (c3, 400, .inl f3)), (rf 17, .inl (c4, 400, .inl f4))] H := hP
  have hD : va_D A [(h0, .inr (7, MO rf 0 0 4 0 0)), (rf 14, .inl (c1, 400, .inl f1)), (rf 15, .inl (c2, 400, .inl f2)), (rf 16, .inl (c3, 400, .inl f3)), (rf 17, .inl (c4, 400, .inl f4))] := hD
  refine lv_aload_n hx hb dX7_read_10 rfl (lv_at hl 0 rfl) ?_
  refine va_get (D := (dC, dI)) (ci := 7) (v := .ref (rf 14)) (C := RX7) (T := TX7) (N := 55) hx hb hB inB7 hown hK hP 0 rfl rfl 14 (by decide) (hB _ bg194) (fun _ h9 => h9) rfl dX7_read_11 ?_
  refine lv_aload_n hx hb dX7_read_14 rfl (lv_at hl 0 rfl) ?_
  refine va_get (D := (dC, dI)) (ci := 7) (v := .int 4) (C := RX7) (T := TX7) (N := 55) hx hb hB inB7 hown hK hP 0 rfl rfl 18 (by decide) (hB _ bg238) (fun _ h9 => h9) rfl dX7_read_15 ?_
  refine va_iald hx hb hK hP 1 0 rfl rfl (i := 4) (by rw [vp_in_iff]; decide) dX7_read_18 ?_
  rw [show f1 (4 : Int32).toNatClampNeg = 9 from (by rw [show (4 : Int32).toNatClampNeg = 4 by decide]; exact h1)]
  refine lv_istore_n (lv' := [(1, .int 9), (0, .ref h0)]) hx hb dX7_read_19 rfl hl (by decide) rfl (fun ls hl => ?_)
  refine lv_aload_n hx hb dX7_read_20 rfl (lv_at hl 1 rfl) ?_
  refine va_get (D := (dC, dI)) (ci := 7) (v := .ref (rf 17)) (C := RX7) (T := TX7) (N := 55) hx hb hB inB7 hown hK hP 0 rfl rfl 17 (by decide) (hB _ bg197) (fun _ h9 => h9) rfl dX7_read_21 ?_
  refine lv_aload_n hx hb dX7_read_24 rfl (lv_at hl 1 rfl) ?_
  refine va_get (D := (dC, dI)) (ci := 7) (v := .int 4) (C := RX7) (T := TX7) (N := 55) hx hb hB inB7 hown hK hP 0 rfl rfl 18 (by decide) (hB _ bg238) (fun _ h9 => h9) rfl dX7_read_25 ?_
  refine va_iald hx hb hK hP 4 3 rfl rfl (i := 4) (by rw [vp_in_iff]; decide) dX7_read_28 ?_
  rw [show f4 (4 : Int32).toNatClampNeg = 0 from (by rw [show (4 : Int32).toNatClampNeg = 4 by decide]; exact h4)]
  refine lv_istore_n (lv' := [(2, .int 0), (1, .int 9), (0, .ref h0)]) hx hb dX7_read_29 rfl hl (by decide) rfl (fun ls hl => ?_)
  refine lv_aload_n hx hb dX7_read_30 rfl (lv_at hl 2 rfl) ?_
  refine va_get (D := (dC, dI)) (ci := 7) (v := .ref (rf 15)) (C := RX7) (T := TX7) (N := 55) hx hb hB inB7 hown hK hP 0 rfl rfl 15 (by decide) (hB _ bg195) (fun _ h9 => h9) rfl dX7_read_31 ?_
  refine lv_aload_n hx hb dX7_read_34 rfl (lv_at hl 2 rfl) ?_
  refine va_get (D := (dC, dI)) (ci := 7) (v := .int 4) (C := RX7) (T := TX7) (N := 55) hx hb hB inB7 hown hK hP 0 rfl rfl 18 (by decide) (hB _ bg238) (fun _ h9 => h9) rfl dX7_read_35 ?_
  refine va_iald hx hb hK hP 2 1 rfl rfl (i := 4) (by rw [vp_in_iff]; decide) dX7_read_38 ?_
  refine lv_istore_n (lv' := [(3, .int (f2 (4 : Int32).toNatClampNeg)), (2, .int 0), (1, .int 9), (0, .ref h0)]) hx hb dX7_read_39 rfl hl (by decide) rfl (fun ls hl => ?_)
  refine lv_iload_n hx hb dX7_read_40 rfl (lv_at hl 1 rfl) ?_
  refine lv_bipush (v := 7) hx hb dX7_read_41 (by decide) ?_
  refine lv_icmp_le (tgt := 68) hx hb dX7_read_43 (by decide) (fun _ => ?_) (fun c9 => absurd c9 (by decide))
  refine lv_aload_n hx hb dX7_read_68 rfl (lv_at hl 3 rfl) ?_
  have hPc := hP.sub (ws' := [(h0, .inr (7, MO rf 0 0 4 0 0))]) [0] rfl
  have hDc := hD.sub (ws' := [(h0, .inr (7, MO rf 0 0 4 0 0))]) [0] (by decide) rfl
  have hKc := hK.sub (tys' := []) [] rfl
  have hFc := va_free (wc := [(h0, .inr (7, MO rf 0 0 4 0 0))]) hD hS hA [0] rfl
  refine va_calli (va_runV (As := []) (rest := []) ⟨hx, hb, hml, hown, hB⟩ (c_mlook l dC dI h0 rf 4 H.size) (cwV 0 hB (bgV bg244 bg245 bg246 bg225 bg247) rfl rfl rfl (by decide +kernel) ⟨Nat.le_of_ble_eq_true rfl, Nat.le_of_ble_eq_true rfl⟩) ⟨fun a U g mk q => by obtain ⟨q0, q1, qP, qK, qD⟩ := q; exact ⟨q0, q1, qP, va_K.moved (u := U) (U := U.calling g mk a) (Vm.Alike.refl U.vm) qK, qD⟩, va_recv hKc hPc (ci := 7) (q0 := 0) rfl rfl, fun U hU hW => ⟨rfl, by rw [hU], by rw [hU]; exact hPc, va_K.moved hW.alike hKc, hDc.weaken (fun _ _ _ _ => trivial)⟩⟩ rfl rfl hl.1 rfl (lv_room (Nat.le_of_ble_eq_true rfl)) dX7_read_69 ⟨Nat.le_of_ble_eq_true rfl, Nat.le_of_ble_eq_true rfl⟩) hS (fun q _ h => hFc q h) hFc (fun r9 u9 t9 H1 locs ht9 hvm hw hB1 hz1 hk1 hS => ?_)
  try dsimp only at hB1 hw
  obtain ⟨hP1, hK1, hD1⟩ := hB1
  rw [ht9] at hP1
  have hK1 := va_K.moved hvm.symm hK1
  obtain rfl := hw
  obtain ⟨hP, hD⟩ := va_join (wr := [(rf 14, .inl (c1, 400, .inl f1)), (rf 15, .inl (c2, 400, .inl f2)), (rf 16, .inl (c3, 400, .inl f3)), (rf 17, .inl (c4, 400, .inl f4))]) (w1 := [(h0, .inr (7, MO rf 0 0 4 0 0))]) hP hD [0] [1, 2, 3, 4] rfl rfl (by decide) (by decide) hk1 hFc hP1 hD1
  have hK := (hK.sub (tys' := [(c1, .int), (c2, .int), (c3, .int), (c4, .int)]) [0, 1, 2, 3] rfl).app hK1
  generalize H1 = H at hP hS ⊢
  have hP : va_P (dC, dI) vwCl [(rf 14, .inl (c1, 400, .inl f1)), (rf 15, .inl (c2, 400, .inl f2)), (rf 16, .inl (c3, 400, .inl f3)), (rf 17, .inl (c4, 400, .inl f4)), (h0, .inr (7, MO rf 0 0 4 0 0))] H := hP
  have hD : va_D A [(rf 14, .inl (c1, 400, .inl f1)), (rf 15, .inl (c2, 400, .inl f2)), (rf 16, .inl (c3, 400, .inl f3)), (rf 17, .inl (c4, 400, .inl f4)), (h0, .inr (7, MO rf 0 0 4 0 0))] := hD
  have hK : va_K (dC, dI) vwCl [(c1, .int), (c2, .int), (c3, .int), (c4, .int)] s := hK
  refine lv_istore (lv' := [(4, .int (-1)), (3, .int (f2 (4 : Int32).toNatClampNeg)), (2, .int 0), (1, .int 9), (0, .ref h0)]) hx hb dX7_read_72 hl (by decide) rfl (fun ls hl => ?_)
  refine lv_iload_n hx hb dX7_read_74 rfl (lv_at hl 3 rfl) ?_
  refine lv_if_ne (tgt := 156) hx hb dX7_read_75 (by decide) (fun _ => ?_) (fun c9 => absurd c9 (by decide))
  refine lv_iload_n hx hb dX7_read_156 rfl (lv_at hl 3 rfl) ?_
  refine lv_iconst (v := 1) hx hb dX7_read_157 (by decide) ?_
  refine lv_icmp_eq (tgt := 183) hx hb dX7_read_158 (by decide) (fun c9 => absurd c9 (by decide)) (fun _ => ?_)
  refine lv_iload_n hx hb dX7_read_161 rfl (lv_at hl 3 rfl) ?_
  refine lv_iconst (v := 3) hx hb dX7_read_162 (by decide) ?_
  refine lv_icmp_eq (tgt := 183) hx hb dX7_read_163 (by decide) (fun c9 => absurd c9 (by decide)) (fun _ => ?_)
  refine lv_iload_n hx hb dX7_read_166 rfl (lv_at hl 3 rfl) ?_
  refine lv_iconst (v := 5) hx hb dX7_read_167 (by decide) ?_
  refine lv_icmp_eq (tgt := 183) hx hb dX7_read_168 (by decide) (fun c9 => absurd c9 (by decide)) (fun _ => ?_)
  refine lv_iload_n hx hb dX7_read_171 rfl (lv_at hl 3 rfl) ?_
  refine lv_bipush (v := 7) hx hb dX7_read_172 (by decide) ?_
  refine lv_icmp_eq (tgt := 183) hx hb dX7_read_174 (by decide) (fun c9 => absurd c9 (by decide)) (fun _ => ?_)
  refine lv_iload_n hx hb dX7_read_177 rfl (lv_at hl 3 rfl) ?_
  refine lv_bipush (v := 9) hx hb dX7_read_178 (by decide) ?_
  refine lv_icmp_ne (tgt := 206) hx hb dX7_read_180 (by decide) (fun c9 => absurd c9 (by decide)) (fun _ => ?_)
  refine lv_aload_n hx hb dX7_read_183 rfl (lv_at hl 4 rfl) ?_
  refine lv_iload_n hx hb dX7_read_184 rfl (lv_at hl 3 rfl) ?_
  refine lv_iconst (v := 1) hx hb dX7_read_185 (by decide) ?_
  refine lv_iadd hx hb dX7_read_186 ?_
  rw [show (9 : Int32) + 1 = 10 by decide]
  refine lv_iconst (v := 0) hx hb dX7_read_187 (by decide) ?_
  refine lv_iconst (v := 0) hx hb dX7_read_188 (by decide) ?_
  refine lv_iload_n hx hb dX7_read_189 rfl (lv_at hl 2 rfl) ?_
  have hPc := hP.sub (ws' := [(h0, .inr (7, MO rf 0 0 4 0 0)), (rf 14, .inl (c1, 400, .inl f1)), (rf 15, .inl (c2, 400, .inl f2)), (rf 16, .inl (c3, 400, .inl f3)), (rf 17, .inl (c4, 400, .inl f4))]) [4, 0, 1, 2, 3] rfl
  have hDc := hD.sub (ws' := [(h0, .inr (7, MO rf 0 0 4 0 0)), (rf 14, .inl (c1, 400, .inl f1)), (rf 15, .inl (c2, 400, .inl f2)), (rf 16, .inl (c3, 400, .inl f3)), (rf 17, .inl (c4, 400, .inl f4))]) [4, 0, 1, 2, 3] (by decide) rfl
  have hKc := hK.sub (tys' := [(c1, .int), (c2, .int), (c3, .int), (c4, .int)]) [0, 1, 2, 3] rfl
  have hFc := va_free (wc := [(h0, .inr (7, MO rf 0 0 4 0 0)), (rf 14, .inl (c1, 400, .inl f1)), (rf 15, .inl (c2, 400, .inl f2)), (rf 16, .inl (c3, 400, .inl f3)), (rf 17, .inl (c4, 400, .inl f4))]) hD hS hA [4, 0, 1, 2, 3] rfl
  refine va_callv (va_runV (As := [.int 10, .int 0, .int 0, .int 0]) (rest := []) ⟨hx, hb, hml, hown, hB⟩ (c_mput4 l dC dI h0 rf c1 c2 c3 c4 f1 f2 f3 f4 10 0 0 0 H.size) (cwV 4 hB (bgV bg255 bg256 bg257 bg225 bg258) rfl rfl rfl (by decide +kernel) ⟨Nat.le_of_ble_eq_true rfl, Nat.le_of_ble_eq_true rfl⟩) ⟨fun a U g mk q => by obtain ⟨q0, q1, qP, qK, qD⟩ := q; exact ⟨q0, q1, qP, va_K.moved (u := U) (U := U.calling g mk a) (Vm.Alike.refl U.vm) qK, qD⟩, va_recv hKc hPc (ci := 7) (q0 := 0) rfl rfl, fun U hU hW => ⟨rfl, by rw [hU], by rw [hU]; exact hPc, va_K.moved hW.alike hKc, hDc.weaken (fun _ _ _ _ => trivial)⟩⟩ rfl rfl hl.1 rfl (lv_room (Nat.le_of_ble_eq_true rfl)) dX7_read_190 ⟨Nat.le_of_ble_eq_true rfl, Nat.le_of_ble_eq_true rfl⟩) hS (fun q _ h => hFc q h) hFc (fun u9 t9 H1 locs ht9 hvm hw hB1 hz1 hk1 hS => ?_)
  obtain ⟨g1_1, g2_2, g3_3, g4_4⟩ := u9
  try dsimp only at hB1 hw
  obtain ⟨hP1, hK1, hD1⟩ := hB1
  rw [ht9] at hP1
  have hK1 := va_K.moved hvm.symm hK1
  obtain ⟨w_5, w_6⟩ := hw
  obtain ⟨hP, hD⟩ := va_join (wr := []) (w1 := [(h0, .inr (7, MO rf 0 0 5 0 0)), (rf 14, .inl (c1, 400, .inl g1_1)), (rf 15, .inl (c2, 400, .inl g2_2)), (rf 16, .inl (c3, 400, .inl g3_3)), (rf 17, .inl (c4, 400, .inl g4_4))]) hP hD [4, 0, 1, 2, 3] [] rfl rfl (by decide) (by decide) hk1 hFc hP1 hD1
  have hK := (hK.sub (tys' := []) [] rfl).app hK1
  generalize H1 = H at hP hS ⊢
  have hP : va_P (dC, dI) vwCl [(h0, .inr (7, MO rf 0 0 5 0 0)), (rf 14, .inl (c1, 400, .inl g1_1)), (rf 15, .inl (c2, 400, .inl g2_2)), (rf 16, .inl (c3, 400, .inl g3_3)), (rf 17, .inl (c4, 400, .inl g4_4))] H := hP
  have hD : va_D A [(h0, .inr (7, MO rf 0 0 5 0 0)), (rf 14, .inl (c1, 400, .inl g1_1)), (rf 15, .inl (c2, 400, .inl g2_2)), (rf 16, .inl (c3, 400, .inl g3_3)), (rf 17, .inl (c4, 400, .inl g4_4))] := hD
  have hK : va_K (dC, dI) vwCl [(c1, .int), (c2, .int), (c3, .int), (c4, .int)] s := hK
  refine lv_aload_n hx hb dX7_read_193 rfl (lv_at hl 4 rfl) ?_
  refine lv_iload_n hx hb dX7_read_194 rfl (lv_at hl 3 rfl) ?_
  refine lv_iconst (v := 2) hx hb dX7_read_195 (by decide) ?_
  refine lv_iadd hx hb dX7_read_196 ?_
  rw [show (9 : Int32) + 2 = 11 by decide]
  refine lv_iconst (v := 0) hx hb dX7_read_197 (by decide) ?_
  refine lv_iconst (v := 0) hx hb dX7_read_198 (by decide) ?_
  refine lv_iload_n hx hb dX7_read_199 rfl (lv_at hl 2 rfl) ?_
  have hPc := hP.sub (ws' := [(h0, .inr (7, MO rf 0 0 5 0 0)), (rf 14, .inl (c1, 400, .inl g1_1)), (rf 15, .inl (c2, 400, .inl g2_2)), (rf 16, .inl (c3, 400, .inl g3_3)), (rf 17, .inl (c4, 400, .inl g4_4))]) [0, 1, 2, 3, 4] rfl
  have hDc := hD.sub (ws' := [(h0, .inr (7, MO rf 0 0 5 0 0)), (rf 14, .inl (c1, 400, .inl g1_1)), (rf 15, .inl (c2, 400, .inl g2_2)), (rf 16, .inl (c3, 400, .inl g3_3)), (rf 17, .inl (c4, 400, .inl g4_4))]) [0, 1, 2, 3, 4] (by decide) rfl
  have hKc := hK.sub (tys' := [(c1, .int), (c2, .int), (c3, .int), (c4, .int)]) [0, 1, 2, 3] rfl
  have hFc := va_free (wc := [(h0, .inr (7, MO rf 0 0 5 0 0)), (rf 14, .inl (c1, 400, .inl g1_1)), (rf 15, .inl (c2, 400, .inl g2_2)), (rf 16, .inl (c3, 400, .inl g3_3)), (rf 17, .inl (c4, 400, .inl g4_4))]) hD hS hA [0, 1, 2, 3, 4] rfl
  refine va_callv (va_runV (As := [.int 11, .int 0, .int 0, .int 0]) (rest := []) ⟨hx, hb, hml, hown, hB⟩ (c_mput5 l dC dI h0 rf c1 c2 c3 c4 g1_1 g2_2 g3_3 g4_4 11 0 0 0 H.size) (cwV 4 hB (bgV bg255 bg256 bg257 bg225 bg258) rfl rfl rfl (by decide +kernel) ⟨Nat.le_of_ble_eq_true rfl, Nat.le_of_ble_eq_true rfl⟩) ⟨fun a U g mk q => by obtain ⟨q0, q1, qP, qK, qD⟩ := q; exact ⟨q0, q1, qP, va_K.moved (u := U) (U := U.calling g mk a) (Vm.Alike.refl U.vm) qK, qD⟩, va_recv hKc hPc (ci := 7) (q0 := 0) rfl rfl, fun U hU hW => ⟨rfl, by rw [hU], by rw [hU]; exact hPc, va_K.moved hW.alike hKc, hDc.weaken (fun _ _ _ _ => trivial)⟩⟩ rfl rfl hl.1 rfl (lv_room (Nat.le_of_ble_eq_true rfl)) dX7_read_200 ⟨Nat.le_of_ble_eq_true rfl, Nat.le_of_ble_eq_true rfl⟩) hS (fun q _ h => hFc q h) hFc (fun u9 t9 H1 locs ht9 hvm hw hB1 hz1 hk1 hS => ?_)
  obtain ⟨g1_7, g2_8, g3_9, g4_10⟩ := u9
  try dsimp only at hB1 hw
  obtain ⟨hP1, hK1, hD1⟩ := hB1
  rw [ht9] at hP1
  have hK1 := va_K.moved hvm.symm hK1
  obtain ⟨w_11, w_12⟩ := hw
  obtain ⟨hP, hD⟩ := va_join (wr := []) (w1 := [(h0, .inr (7, MO rf 0 0 6 0 0)), (rf 14, .inl (c1, 400, .inl g1_7)), (rf 15, .inl (c2, 400, .inl g2_8)), (rf 16, .inl (c3, 400, .inl g3_9)), (rf 17, .inl (c4, 400, .inl g4_10))]) hP hD [0, 1, 2, 3, 4] [] rfl rfl (by decide) (by decide) hk1 hFc hP1 hD1
  have hK := (hK.sub (tys' := []) [] rfl).app hK1
  generalize H1 = H at hP hS ⊢
  have hP : va_P (dC, dI) vwCl [(h0, .inr (7, MO rf 0 0 6 0 0)), (rf 14, .inl (c1, 400, .inl g1_7)), (rf 15, .inl (c2, 400, .inl g2_8)), (rf 16, .inl (c3, 400, .inl g3_9)), (rf 17, .inl (c4, 400, .inl g4_10))] H := hP
  have hD : va_D A [(h0, .inr (7, MO rf 0 0 6 0 0)), (rf 14, .inl (c1, 400, .inl g1_7)), (rf 15, .inl (c2, 400, .inl g2_8)), (rf 16, .inl (c3, 400, .inl g3_9)), (rf 17, .inl (c4, 400, .inl g4_10))] := hD
  have hK : va_K (dC, dI) vwCl [(c1, .int), (c2, .int), (c3, .int), (c4, .int)] s := hK
  refine lv_goto (tgt := 330) hx hb dX7_read_203 (by decide) ?_
  refine lv_iconst (v := 1) hx hb dX7_read_330 (by decide) ?_
  have hP9 := hP.sub (ws' := [(h0, .inr (7, MO rf 0 0 6 0 0)), (rf 14, .inl (c1, 400, .inl g1_7)), (rf 15, .inl (c2, 400, .inl g2_8)), (rf 16, .inl (c3, 400, .inl g3_9)), (rf 17, .inl (c4, 400, .inl g4_10))]) [0, 1, 2, 3, 4] rfl
  have hD9 := hD.sub (ws' := [(h0, .inr (7, MO rf 0 0 6 0 0)), (rf 14, .inl (c1, 400, .inl g1_7)), (rf 15, .inl (c2, 400, .inl g2_8)), (rf 16, .inl (c3, 400, .inl g3_9)), (rf 17, .inl (c4, 400, .inl g4_10))]) [0, 1, 2, 3, 4] (by decide) rfl
  have hK9 := hK.sub (tys' := [(c1, .int), (c2, .int), (c3, .int), (c4, .int)]) [0, 1, 2, 3] rfl
  refine W.widen (k := 0) (n := 0) (by decide) (by decide) ?_
  exact W.zret (v := 1) hx hb hr (by decide) (fun t9 ht9 hW => ⟨⟨1, (g1_7, g2_8, g3_9, g4_10), rfl, ⟨rfl, w_11, w_12⟩, by rw [ht9]; exact hP9, va_K.moved hW.alike hK9, hD9⟩, hS.F ht9⟩) hS.2.2 dX7_read_331
set_option maxHeartbeats 4000000 in
set_option maxRecDepth 100000 in
theorem c_mread5_11 (l : Launch) (dC : Nat → ClassId) (dI : Nat → Nat → Nat) (h0 : Nat) (rf : Nat → Nat) (c1 : ClassId) (c2 : ClassId) (c3 : ClassId) (c4 : ClassId) (f1 : Nat → Int32) (f2 : Nat → Int32) (f3 : Nat → Int32) (f4 : Nat → Int32) (sz : Nat) (h1 : f1 5 = 11) (h4 : f4 5 = 0) : Met l yX7_read (Cond.code yX7_read cX7_read 5 (some .boolean) :: BG) ({ frames := 3, cells := 0, slots := 0, locals := 62 }) (va_Pc [.ref h0] (fun U => U.heap.size = sz ∧ va_P (dC, dI) vwCl [(h0, .inr (7, MO rf 0 0 6 0 0)), (rf 14, .inl (c1, 400, .inl f1)), (rf 15, .inl (c2, 400, .inl f2)), (rf 16, .inl (c3, 400, .inl f3)), (rf 17, .inl (c4, 400, .inl f4))] U.heap ∧ va_K (dC, dI) vwCl [(c1, .int), (c2, .int), (c3, .int), (c4, .int)] U ∧ va_D (fun _ => True) [(h0, .inr (7, MO rf 0 0 6 0 0)), (rf 14, .inl (c1, 400, .inl f1)), (rf 15, .inl (c2, 400, .inl f2)), (rf 16, .inl (c3, 400, .inl f3)), (rf 17, .inl (c4, 400, .inl f4))])) (va_Qi (fun (r9 : Int32) (u9 : (Nat → Int32) × (Nat → Int32) × (Nat → Int32) × (Nat → Int32)) => r9 = 0) (fun (u9 : (Nat → Int32) × (Nat → Int32) × (Nat → Int32) × (Nat → Int32)) (t9 : State) => match u9 with | (g1, g2, g3, g4) => va_P (dC, dI) vwCl [(h0, .inr (7, MO rf 0 0 5 0 1)), (rf 14, .inl (c1, 400, .inl g1)), (rf 15, .inl (c2, 400, .inl g2)), (rf 16, .inl (c3, 400, .inl g3)), (rf 17, .inl (c4, 400, .inl g4))] t9.heap ∧ va_K (dC, dI) vwCl [(c1, .int), (c2, .int), (c3, .int), (c4, .int)] t9 ∧ va_D (va_A [(h0, .inr (7, MO rf 0 0 6 0 0)), (rf 14, .inl (c1, 400, .inl f1)), (rf 15, .inl (c2, 400, .inl f2)), (rf 16, .inl (c3, 400, .inl f3)), (rf 17, .inl (c4, 400, .inl f4))] sz) [(h0, .inr (7, MO rf 0 0 5 0 1)), (rf 14, .inl (c1, 400, .inl g1)), (rf 15, .inl (c2, 400, .inl g2)), (rf 16, .inl (c3, 400, .inl g3)), (rf 17, .inl (c4, 400, .inl g4))]) (va_A [(h0, .inr (7, MO rf 0 0 6 0 0)), (rf 14, .inl (c1, 400, .inl f1)), (rf 15, .inl (c2, 400, .inl f2)), (rf 16, .inl (c3, 400, .inl f3)), (rf 17, .inl (c4, 400, .inl f4))] sz)) 0 0 (va_A [(h0, .inr (7, MO rf 0 0 6 0 0)), (rf 14, .inl (c1, 400, .inl f1)), (rf 15, .inl (c2, 400, .inl f2)), (rf 16, .inl (c3, 400, .inl f3)), (rf 17, .inl (c4, 400, .inl f4))] sz) := by
  refine Met.ofW (cc := cX7_read) (maxL := 5) (ret := (some .boolean)) (by decide) rfl ?_
  intro p e s m args below meth c s₁ B hml hv
  obtain ⟨rfl, hsz, hP, hK, hD0⟩ := hv
  have hx := B.exec
  have hb := B.bytes
  have hr := B.returns
  have hts := atoms_spec (ws := Cond.code yX7_read cX7_read 5 (some .boolean) :: BG) B.pre
  have hB : ∀ w ∈ BG, w.before _ s = true := fun w h => hts w (List.mem_cons_of_mem _ h)
  have hown : s.vm.findClass RX7 = some m.cls := findClass_of_methodNamed B.named
  have hlocks := B.notSynchronized
  subst hsz
  have hD := hD0.self (sz := s.heap.size)
  generalize hAe : va_A [(h0, .inr (7, MO rf 0 0 6 0 0)), (rf 14, .inl (c1, 400, .inl f1)), (rf 15, .inl (c2, 400, .inl f2)), (rf 16, .inl (c3, 400, .inl f3)), (rf 17, .inl (c4, 400, .inl f4))] s.heap.size = A at hD ⊢
  have hA : ∀ q : Nat, s.heap.size ≤ q → A q := fun q h => by rw [← hAe]; exact Or.inr h
  have hS : va_S A s.heap s.heap [] := va_S.rf
  have hP : va_P (dC, dI) vwCl [(h0, .inr (7, MO rf 0 0 6 0 0)), (rf 14, .inl (c1, 400, .inl f1)), (rf 15, .inl (c2, 400, .inl f2)), (rf 16, .inl (c3, 400, .inl f3)), (rf 17, .inl (c4, 400, .inl f4))] s.heap := hP
  have hl := lv_entry ([.ref h0]) (n := 5) (Nat.le_of_ble_eq_true rfl)
  rw [lg_entry_eq]
  generalize (lg_sl ([.ref h0]) ++ List.replicate (5 - (lg_sl ([.ref h0])).length) Slot.unset).toArray = ls at hl ⊢
  have hl : lv_has ls 5 [(0, .ref h0)] := hl
  refine lv_aload_n hx hb dX7_read_0 rfl (lv_at hl 0 rfl) ?_
  refine lv_dup hx hb dX7_read_1 rfl ?_
  refine va_get (D := (dC, dI)) (ci := 7) (v := .int 6) (C := RX7) (T := TX7) (N := 55) hx hb hB inB7 hown hK hP 0 rfl rfl 18 (by decide) (hB _ bg238) (fun _ h9 => h9) rfl dX7_read_2 ?_
  refine lv_iconst (v := 1) hx hb dX7_read_5 (by decide) ?_
  refine lv_isub hx hb dX7_read_6 ?_
  rw [show (6 : Int32) - 1 = 5 by decide]
  refine va_put (D := (dC, dI)) (ci := 7) (v := .int 5) (ty := .int) (C := RX7) (T := TX7) (N := 55) hx hb hB inB7 tyX7 tyX7_ok nmX7 hown hK hP hD hS 0 rfl rfl 18 (by decide) (hB _ bg238) (fun _ h9 => h9) rfl (by decide +kernel) rfl rfl (Nat.le_of_ble_eq_true rfl) dX7_read_7 (fun H locs hP hD hS => ?_)
  have hP : va_P (dC, dI) vwCl [(h0, .inr (7, MO rf 0 0 5 0 0)), (rf 14, .inl (c1, 400, .inl f1)), (rf 15, .inl (c2, 400, .inl f2)), (rf 16, .inl (c3, 400, .inl f3)), (rf 17, .inl (c4, 400, .inl f4))] H := hP
  have hD : va_D A [(h0, .inr (7, MO rf 0 0 5 0 0)), (rf 14, .inl (c1, 400, .inl f1)), (rf 15, .inl (c2, 400, .inl f2)), (rf 16, .inl (c3, 400, .inl f3)), (rf 17, .inl (c4, 400, .inl f4))] := hD
  refine lv_aload_n hx hb dX7_read_10 rfl (lv_at hl 0 rfl) ?_
  refine va_get (D := (dC, dI)) (ci := 7) (v := .ref (rf 14)) (C := RX7) (T := TX7) (N := 55) hx hb hB inB7 hown hK hP 0 rfl rfl 14 (by decide) (hB _ bg194) (fun _ h9 => h9) rfl dX7_read_11 ?_
  refine lv_aload_n hx hb dX7_read_14 rfl (lv_at hl 0 rfl) ?_
  refine va_get (D := (dC, dI)) (ci := 7) (v := .int 5) (C := RX7) (T := TX7) (N := 55) hx hb hB inB7 hown hK hP 0 rfl rfl 18 (by decide) (hB _ bg238) (fun _ h9 => h9) rfl dX7_read_15 ?_
  refine va_iald hx hb hK hP 1 0 rfl rfl (i := 5) (by rw [vp_in_iff]; decide) dX7_read_18 ?_
  rw [show f1 (5 : Int32).toNatClampNeg = 11 from (by rw [show (5 : Int32).toNatClampNeg = 5 by decide]; exact h1)]
  refine lv_istore_n (lv' := [(1, .int 11), (0, .ref h0)]) hx hb dX7_read_19 rfl hl (by decide) rfl (fun ls hl => ?_)
  refine lv_aload_n hx hb dX7_read_20 rfl (lv_at hl 1 rfl) ?_
  refine va_get (D := (dC, dI)) (ci := 7) (v := .ref (rf 17)) (C := RX7) (T := TX7) (N := 55) hx hb hB inB7 hown hK hP 0 rfl rfl 17 (by decide) (hB _ bg197) (fun _ h9 => h9) rfl dX7_read_21 ?_
  refine lv_aload_n hx hb dX7_read_24 rfl (lv_at hl 1 rfl) ?_
  refine va_get (D := (dC, dI)) (ci := 7) (v := .int 5) (C := RX7) (T := TX7) (N := 55) hx hb hB inB7 hown hK hP 0 rfl rfl 18 (by decide) (hB _ bg238) (fun _ h9 => h9) rfl dX7_read_25 ?_
  refine va_iald hx hb hK hP 4 3 rfl rfl (i := 5) (by rw [vp_in_iff]; decide) dX7_read_28 ?_
  rw [show f4 (5 : Int32).toNatClampNeg = 0 from (by rw [show (5 : Int32).toNatClampNeg = 5 by decide]; exact h4)]
  refine lv_istore_n (lv' := [(2, .int 0), (1, .int 11), (0, .ref h0)]) hx hb dX7_read_29 rfl hl (by decide) rfl (fun ls hl => ?_)
  refine lv_aload_n hx hb dX7_read_30 rfl (lv_at hl 2 rfl) ?_
  refine va_get (D := (dC, dI)) (ci := 7) (v := .ref (rf 15)) (C := RX7) (T := TX7) (N := 55) hx hb hB inB7 hown hK hP 0 rfl rfl 15 (by decide) (hB _ bg195) (fun _ h9 => h9) rfl dX7_read_31 ?_
  refine lv_aload_n hx hb dX7_read_34 rfl (lv_at hl 2 rfl) ?_
  refine va_get (D := (dC, dI)) (ci := 7) (v := .int 5) (C := RX7) (T := TX7) (N := 55) hx hb hB inB7 hown hK hP 0 rfl rfl 18 (by decide) (hB _ bg238) (fun _ h9 => h9) rfl dX7_read_35 ?_
  refine va_iald hx hb hK hP 2 1 rfl rfl (i := 5) (by rw [vp_in_iff]; decide) dX7_read_38 ?_
  refine lv_istore_n (lv' := [(3, .int (f2 (5 : Int32).toNatClampNeg)), (2, .int 0), (1, .int 11), (0, .ref h0)]) hx hb dX7_read_39 rfl hl (by decide) rfl (fun ls hl => ?_)
  refine lv_iload_n hx hb dX7_read_40 rfl (lv_at hl 1 rfl) ?_
  refine lv_bipush (v := 7) hx hb dX7_read_41 (by decide) ?_
  refine lv_icmp_le (tgt := 68) hx hb dX7_read_43 (by decide) (fun _ => ?_) (fun c9 => absurd c9 (by decide))
  refine lv_aload_n hx hb dX7_read_68 rfl (lv_at hl 3 rfl) ?_
  have hPc := hP.sub (ws' := [(h0, .inr (7, MO rf 0 0 5 0 0))]) [0] rfl
  have hDc := hD.sub (ws' := [(h0, .inr (7, MO rf 0 0 5 0 0))]) [0] (by decide) rfl
  have hKc := hK.sub (tys' := []) [] rfl
  have hFc := va_free (wc := [(h0, .inr (7, MO rf 0 0 5 0 0))]) hD hS hA [0] rfl
  refine va_calli (va_runV (As := []) (rest := []) ⟨hx, hb, hml, hown, hB⟩ (c_mlook l dC dI h0 rf 5 H.size) (cwV 0 hB (bgV bg244 bg245 bg246 bg225 bg247) rfl rfl rfl (by decide +kernel) ⟨Nat.le_of_ble_eq_true rfl, Nat.le_of_ble_eq_true rfl⟩) ⟨fun a U g mk q => by obtain ⟨q0, q1, qP, qK, qD⟩ := q; exact ⟨q0, q1, qP, va_K.moved (u := U) (U := U.calling g mk a) (Vm.Alike.refl U.vm) qK, qD⟩, va_recv hKc hPc (ci := 7) (q0 := 0) rfl rfl, fun U hU hW => ⟨rfl, by rw [hU], by rw [hU]; exact hPc, va_K.moved hW.alike hKc, hDc.weaken (fun _ _ _ _ => trivial)⟩⟩ rfl rfl hl.1 rfl (lv_room (Nat.le_of_ble_eq_true rfl)) dX7_read_69 ⟨Nat.le_of_ble_eq_true rfl, Nat.le_of_ble_eq_true rfl⟩) hS (fun q _ h => hFc q h) hFc (fun r9 u9 t9 H1 locs ht9 hvm hw hB1 hz1 hk1 hS => ?_)
  try dsimp only at hB1 hw
  obtain ⟨hP1, hK1, hD1⟩ := hB1
  rw [ht9] at hP1
  have hK1 := va_K.moved hvm.symm hK1
  obtain rfl := hw
  obtain ⟨hP, hD⟩ := va_join (wr := [(rf 14, .inl (c1, 400, .inl f1)), (rf 15, .inl (c2, 400, .inl f2)), (rf 16, .inl (c3, 400, .inl f3)), (rf 17, .inl (c4, 400, .inl f4))]) (w1 := [(h0, .inr (7, MO rf 0 0 5 0 0))]) hP hD [0] [1, 2, 3, 4] rfl rfl (by decide) (by decide) hk1 hFc hP1 hD1
  have hK := (hK.sub (tys' := [(c1, .int), (c2, .int), (c3, .int), (c4, .int)]) [0, 1, 2, 3] rfl).app hK1
  generalize H1 = H at hP hS ⊢
  have hP : va_P (dC, dI) vwCl [(rf 14, .inl (c1, 400, .inl f1)), (rf 15, .inl (c2, 400, .inl f2)), (rf 16, .inl (c3, 400, .inl f3)), (rf 17, .inl (c4, 400, .inl f4)), (h0, .inr (7, MO rf 0 0 5 0 0))] H := hP
  have hD : va_D A [(rf 14, .inl (c1, 400, .inl f1)), (rf 15, .inl (c2, 400, .inl f2)), (rf 16, .inl (c3, 400, .inl f3)), (rf 17, .inl (c4, 400, .inl f4)), (h0, .inr (7, MO rf 0 0 5 0 0))] := hD
  have hK : va_K (dC, dI) vwCl [(c1, .int), (c2, .int), (c3, .int), (c4, .int)] s := hK
  refine lv_istore (lv' := [(4, .int (-1)), (3, .int (f2 (5 : Int32).toNatClampNeg)), (2, .int 0), (1, .int 11), (0, .ref h0)]) hx hb dX7_read_72 hl (by decide) rfl (fun ls hl => ?_)
  refine lv_iload_n hx hb dX7_read_74 rfl (lv_at hl 3 rfl) ?_
  refine lv_if_ne (tgt := 156) hx hb dX7_read_75 (by decide) (fun _ => ?_) (fun c9 => absurd c9 (by decide))
  refine lv_iload_n hx hb dX7_read_156 rfl (lv_at hl 3 rfl) ?_
  refine lv_iconst (v := 1) hx hb dX7_read_157 (by decide) ?_
  refine lv_icmp_eq (tgt := 183) hx hb dX7_read_158 (by decide) (fun c9 => absurd c9 (by decide)) (fun _ => ?_)
  refine lv_iload_n hx hb dX7_read_161 rfl (lv_at hl 3 rfl) ?_
  refine lv_iconst (v := 3) hx hb dX7_read_162 (by decide) ?_
  refine lv_icmp_eq (tgt := 183) hx hb dX7_read_163 (by decide) (fun c9 => absurd c9 (by decide)) (fun _ => ?_)
  refine lv_iload_n hx hb dX7_read_166 rfl (lv_at hl 3 rfl) ?_
  refine lv_iconst (v := 5) hx hb dX7_read_167 (by decide) ?_
  refine lv_icmp_eq (tgt := 183) hx hb dX7_read_168 (by decide) (fun c9 => absurd c9 (by decide)) (fun _ => ?_)
  refine lv_iload_n hx hb dX7_read_171 rfl (lv_at hl 3 rfl) ?_
  refine lv_bipush (v := 7) hx hb dX7_read_172 (by decide) ?_
  refine lv_icmp_eq (tgt := 183) hx hb dX7_read_174 (by decide) (fun c9 => absurd c9 (by decide)) (fun _ => ?_)
  refine lv_iload_n hx hb dX7_read_177 rfl (lv_at hl 3 rfl) ?_
  refine lv_bipush (v := 9) hx hb dX7_read_178 (by decide) ?_
  refine lv_icmp_ne (tgt := 206) hx hb dX7_read_180 (by decide) (fun _ => ?_) (fun c9 => absurd c9 (by decide))
  refine lv_iload_n hx hb dX7_read_206 rfl (lv_at hl 3 rfl) ?_
  refine lv_bipush (v := 11) hx hb dX7_read_207 (by decide) ?_
  refine lv_icmp_ne (tgt := 218) hx hb dX7_read_209 (by decide) (fun c9 => absurd c9 (by decide)) (fun _ => ?_)
  refine lv_aload_n hx hb dX7_read_212 rfl (lv_at hl 4 rfl) ?_
  refine lv_iload_n hx hb dX7_read_213 rfl (lv_at hl 2 rfl) ?_
  have hPc := hP.sub (ws' := [(h0, .inr (7, MO rf 0 0 5 0 0))]) [4] rfl
  have hDc := hD.sub (ws' := [(h0, .inr (7, MO rf 0 0 5 0 0))]) [4] (by decide) rfl
  have hKc := hK.sub (tys' := []) [] rfl
  have hFc := va_free (wc := [(h0, .inr (7, MO rf 0 0 5 0 0))]) hD hS hA [4] rfl
  refine va_calli (va_runV (As := [.int 0]) (rest := []) ⟨hx, hb, hml, hown, hB⟩ (c_matom l dC dI h0 rf 5 H.size) (cwV 1 hB (bgV bg259 bg260 bg261 bg225 bg262) rfl rfl rfl (by decide +kernel) ⟨Nat.le_of_ble_eq_true rfl, Nat.le_of_ble_eq_true rfl⟩) ⟨fun a U g mk q => by obtain ⟨q0, q1, qP, qK, qD⟩ := q; exact ⟨q0, q1, qP, va_K.moved (u := U) (U := U.calling g mk a) (Vm.Alike.refl U.vm) qK, qD⟩, va_recv hKc hPc (ci := 7) (q0 := 0) rfl rfl, fun U hU hW => ⟨rfl, by rw [hU], by rw [hU]; exact hPc, va_K.moved hW.alike hKc, hDc.weaken (fun _ _ _ _ => trivial)⟩⟩ rfl rfl hl.1 rfl (lv_room (Nat.le_of_ble_eq_true rfl)) dX7_read_214 ⟨Nat.le_of_ble_eq_true rfl, Nat.le_of_ble_eq_true rfl⟩) hS (fun q _ h => hFc q h) hFc (fun r9 u9 t9 H1 locs ht9 hvm hw hB1 hz1 hk1 hS => ?_)
  try dsimp only at hB1 hw
  obtain ⟨hP1, hK1, hD1⟩ := hB1
  rw [ht9] at hP1
  have hK1 := va_K.moved hvm.symm hK1
  obtain rfl := hw
  obtain ⟨hP, hD⟩ := va_join (wr := [(rf 14, .inl (c1, 400, .inl f1)), (rf 15, .inl (c2, 400, .inl f2)), (rf 16, .inl (c3, 400, .inl f3)), (rf 17, .inl (c4, 400, .inl f4))]) (w1 := [(h0, .inr (7, MO rf 0 0 5 0 1))]) hP hD [4] [0, 1, 2, 3] rfl rfl (by decide) (by decide) hk1 hFc hP1 hD1
  have hK := (hK.sub (tys' := [(c1, .int), (c2, .int), (c3, .int), (c4, .int)]) [0, 1, 2, 3] rfl).app hK1
  generalize H1 = H at hP hS ⊢
  have hP : va_P (dC, dI) vwCl [(rf 14, .inl (c1, 400, .inl f1)), (rf 15, .inl (c2, 400, .inl f2)), (rf 16, .inl (c3, 400, .inl f3)), (rf 17, .inl (c4, 400, .inl f4)), (h0, .inr (7, MO rf 0 0 5 0 1))] H := hP
  have hD : va_D A [(rf 14, .inl (c1, 400, .inl f1)), (rf 15, .inl (c2, 400, .inl f2)), (rf 16, .inl (c3, 400, .inl f3)), (rf 17, .inl (c4, 400, .inl f4)), (h0, .inr (7, MO rf 0 0 5 0 1))] := hD
  have hK : va_K (dC, dI) vwCl [(c1, .int), (c2, .int), (c3, .int), (c4, .int)] s := hK
  have hP9 := hP.sub (ws' := [(h0, .inr (7, MO rf 0 0 5 0 1)), (rf 14, .inl (c1, 400, .inl f1)), (rf 15, .inl (c2, 400, .inl f2)), (rf 16, .inl (c3, 400, .inl f3)), (rf 17, .inl (c4, 400, .inl f4))]) [4, 0, 1, 2, 3] rfl
  have hD9 := hD.sub (ws' := [(h0, .inr (7, MO rf 0 0 5 0 1)), (rf 14, .inl (c1, 400, .inl f1)), (rf 15, .inl (c2, 400, .inl f2)), (rf 16, .inl (c3, 400, .inl f3)), (rf 17, .inl (c4, 400, .inl f4))]) [4, 0, 1, 2, 3] (by decide) rfl
  have hK9 := hK.sub (tys' := [(c1, .int), (c2, .int), (c3, .int), (c4, .int)]) [0, 1, 2, 3] rfl
  refine W.widen (k := 0) (n := 0) (by decide) (by decide) ?_
  exact W.zret (v := 0) hx hb hr (by decide) (fun t9 ht9 hW => ⟨⟨0, (f1, f2, f3, f4), rfl, rfl, by rw [ht9]; exact hP9, va_K.moved hW.alike hK9, hD9⟩, hS.F ht9⟩) hS.2.2 dX7_read_217
set_option maxHeartbeats 4000000 in
set_option maxRecDepth 100000 in
theorem c_mparse (l : Launch) (dC : Nat → ClassId) (dI : Nat → Nat → Nat) (h0 : Nat) (rf : Nat → Nat) (c1 : ClassId) (c2 : ClassId) (c3 : ClassId) (c4 : ClassId) (sz : Nat) : Met l yX7_parse (Cond.code yX7_parse cX7_parse 1 (some .int) :: BG) ({ frames := 4, cells := 0, slots := 0, locals := 86 }) (va_Pc [.ref h0] (fun U => U.heap.size = sz ∧ va_P (dC, dI) vwCl [(h0, .inr (7, MO rf 0 0 0 0 0)), (rf 14, .inl (c1, 400, .inl (fun _ => 0))), (rf 15, .inl (c2, 400, .inl (fun _ => 0))), (rf 16, .inl (c3, 400, .inl (fun _ => 0))), (rf 17, .inl (c4, 400, .inl (fun _ => 0)))] U.heap ∧ va_K (dC, dI) vwCl [(c1, .int), (c2, .int), (c3, .int), (c4, .int)] U ∧ va_D (fun _ => True) [(h0, .inr (7, MO rf 0 0 0 0 0)), (rf 14, .inl (c1, 400, .inl (fun _ => 0))), (rf 15, .inl (c2, 400, .inl (fun _ => 0))), (rf 16, .inl (c3, 400, .inl (fun _ => 0))), (rf 17, .inl (c4, 400, .inl (fun _ => 0)))])) (va_Qi (fun (r9 : Int32) (fs : List Value) => r9 = 1 ∧ fs[0]? = some (.int 0)) (fun (fs : List Value) (t9 : State) => va_P (dC, dI) vwCl [(h0, .inr (7, fs))] t9.heap ∧ va_K (dC, dI) vwCl [] t9 ∧ va_D (va_A [(h0, .inr (7, MO rf 0 0 0 0 0)), (rf 14, .inl (c1, 400, .inl (fun _ => 0))), (rf 15, .inl (c2, 400, .inl (fun _ => 0))), (rf 16, .inl (c3, 400, .inl (fun _ => 0))), (rf 17, .inl (c4, 400, .inl (fun _ => 0)))] sz) [(h0, .inr (7, fs))]) (va_A [(h0, .inr (7, MO rf 0 0 0 0 0)), (rf 14, .inl (c1, 400, .inl (fun _ => 0))), (rf 15, .inl (c2, 400, .inl (fun _ => 0))), (rf 16, .inl (c3, 400, .inl (fun _ => 0))), (rf 17, .inl (c4, 400, .inl (fun _ => 0)))] sz)) 0 0 (va_A [(h0, .inr (7, MO rf 0 0 0 0 0)), (rf 14, .inl (c1, 400, .inl (fun _ => 0))), (rf 15, .inl (c2, 400, .inl (fun _ => 0))), (rf 16, .inl (c3, 400, .inl (fun _ => 0))), (rf 17, .inl (c4, 400, .inl (fun _ => 0)))] sz) := by
  refine Met.ofW (cc := cX7_parse) (maxL := 1) (ret := (some .int)) (by decide) rfl ?_
  intro p e s m args below meth c s₁ B hml hv
  obtain ⟨rfl, hsz, hP, hK, hD0⟩ := hv
  have hx := B.exec
  have hb := B.bytes
  have hr := B.returns
  have hts := atoms_spec (ws := Cond.code yX7_parse cX7_parse 1 (some .int) :: BG) B.pre
  have hB : ∀ w ∈ BG, w.before _ s = true := fun w h => hts w (List.mem_cons_of_mem _ h)
  have hown : s.vm.findClass RX7 = some m.cls := findClass_of_methodNamed B.named
  have hlocks := B.notSynchronized
  subst hsz
  have hD := hD0.self (sz := s.heap.size)
  generalize hAe : va_A [(h0, .inr (7, MO rf 0 0 0 0 0)), (rf 14, .inl (c1, 400, .inl (fun _ => 0))), (rf 15, .inl (c2, 400, .inl (fun _ => 0))), (rf 16, .inl (c3, 400, .inl (fun _ => 0))), (rf 17, .inl (c4, 400, .inl (fun _ => 0)))] s.heap.size = A at hD ⊢
  have hA : ∀ q : Nat, s.heap.size ≤ q → A q := fun q h => by rw [← hAe]; exact Or.inr h
  have hS : va_S A s.heap s.heap [] := va_S.rf
  have hP : va_P (dC, dI) vwCl [(h0, .inr (7, MO rf 0 0 0 0 0)), (rf 14, .inl (c1, 400, .inl (fun _ => 0))), (rf 15, .inl (c2, 400, .inl (fun _ => 0))), (rf 16, .inl (c3, 400, .inl (fun _ => 0))), (rf 17, .inl (c4, 400, .inl (fun _ => 0)))] s.heap := hP
  have hl := lv_entry ([.ref h0]) (n := 1) (Nat.le_of_ble_eq_true rfl)
  rw [lg_entry_eq]
  generalize (lg_sl ([.ref h0]) ++ List.replicate (1 - (lg_sl ([.ref h0])).length) Slot.unset).toArray = ls at hl ⊢
  have hl : lv_has ls 1 [(0, .ref h0)] := hl
  refine lv_aload_n hx hb dX7_parse_0 rfl (lv_at hl 0 rfl) ?_
  refine lv_aload_n hx hb dX7_parse_1 rfl (lv_at hl 0 rfl) ?_
  refine va_get (D := (dC, dI)) (ci := 7) (v := .int 0) (C := RX7) (T := TX7) (N := 55) hx hb hB inB7 hown hK hP 0 rfl rfl 1 (by decide) (hB _ bg221) (fun _ h9 => h9) rfl dX7_parse_2 ?_
  refine lv_if_eq (tgt := 12) hx hb dX7_parse_5 (by decide) (fun _ => ?_) (fun c9 => absurd c9 (by decide))
  refine lv_iconst (v := 0) hx hb dX7_parse_12 (by decide) ?_
  have hPc := hP.sub (ws' := [(h0, .inr (7, MO rf 0 0 0 0 0))]) [0] rfl
  have hDc := hD.sub (ws' := [(h0, .inr (7, MO rf 0 0 0 0 0))]) [0] (by decide) rfl
  have hKc := hK.sub (tys' := []) [] rfl
  have hFc := va_free (wc := [(h0, .inr (7, MO rf 0 0 0 0 0))]) hD hS hA [0] rfl
  refine va_calli (va_runV (As := [.int 0]) (rest := []) ⟨hx, hb, hml, hown, hB⟩ (c_fails0 l dC dI h0 rf s.heap.size) (cwV 1 hB (bgV bg222 bg223 bg224 bg225 bg226) rfl rfl rfl (by decide +kernel) ⟨Nat.le_of_ble_eq_true rfl, Nat.le_of_ble_eq_true rfl⟩) ⟨fun a U g mk q => by obtain ⟨q0, q1, qP, qK, qD⟩ := q; exact ⟨q0, q1, qP, va_K.moved (u := U) (U := U.calling g mk a) (Vm.Alike.refl U.vm) qK, qD⟩, va_recv hKc hPc (ci := 7) (q0 := 0) rfl rfl, fun U hU hW => ⟨rfl, by rw [hU], by rw [hU]; exact hPc, va_K.moved hW.alike hKc, hDc.weaken (fun _ _ _ _ => trivial)⟩⟩ rfl rfl hl.1 rfl (lv_room (Nat.le_of_ble_eq_true rfl)) dX7_parse_13 ⟨Nat.le_of_ble_eq_true rfl, Nat.le_of_ble_eq_true rfl⟩) hS (fun q _ h => hFc q h) hFc (fun r9 u9 t9 H1 locs ht9 hvm hw hB1 hz1 hk1 hS => ?_)
  try dsimp only at hB1 hw
  obtain ⟨hP1, hK1, hD1⟩ := hB1
  rw [ht9] at hP1
  have hK1 := va_K.moved hvm.symm hK1
  obtain rfl := hw
  obtain ⟨hP, hD⟩ := va_join (wr := [(rf 14, .inl (c1, 400, .inl (fun _ => 0))), (rf 15, .inl (c2, 400, .inl (fun _ => 0))), (rf 16, .inl (c3, 400, .inl (fun _ => 0))), (rf 17, .inl (c4, 400, .inl (fun _ => 0)))]) (w1 := [(h0, .inr (7, MO rf 0 0 0 0 0))]) hP hD [0] [1, 2, 3, 4] rfl rfl (by decide) (by decide) hk1 hFc hP1 hD1
  have hK := (hK.sub (tys' := [(c1, .int), (c2, .int), (c3, .int), (c4, .int)]) [0, 1, 2, 3] rfl).app hK1
  generalize H1 = H at hP hS ⊢
  have hP : va_P (dC, dI) vwCl [(rf 14, .inl (c1, 400, .inl (fun _ => 0))), (rf 15, .inl (c2, 400, .inl (fun _ => 0))), (rf 16, .inl (c3, 400, .inl (fun _ => 0))), (rf 17, .inl (c4, 400, .inl (fun _ => 0))), (h0, .inr (7, MO rf 0 0 0 0 0))] H := hP
  have hD : va_D A [(rf 14, .inl (c1, 400, .inl (fun _ => 0))), (rf 15, .inl (c2, 400, .inl (fun _ => 0))), (rf 16, .inl (c3, 400, .inl (fun _ => 0))), (rf 17, .inl (c4, 400, .inl (fun _ => 0))), (h0, .inr (7, MO rf 0 0 0 0 0))] := hD
  have hK : va_K (dC, dI) vwCl [(c1, .int), (c2, .int), (c3, .int), (c4, .int)] s := hK
  refine lv_if_eq (tgt := 21) hx hb dX7_parse_16 (by decide) (fun _ => ?_) (fun c9 => absurd c9 (by decide))
  refine lv_aload_n hx hb dX7_parse_21 rfl (lv_at hl 0 rfl) ?_
  refine lv_iconst (v := 0) hx hb dX7_parse_22 (by decide) ?_
  refine va_put (D := (dC, dI)) (ci := 7) (v := .int 0) (ty := .int) (C := RX7) (T := TX7) (N := 55) hx hb hB inB7 tyX7 tyX7_ok nmX7 hown hK hP hD hS 4 rfl rfl 12 (by decide) (hB _ bg263) (fun _ h9 => h9) rfl (by decide +kernel) rfl rfl (Nat.le_of_ble_eq_true rfl) dX7_parse_23 (fun H locs hP hD hS => ?_)
  have hP : va_P (dC, dI) vwCl [(rf 14, .inl (c1, 400, .inl (fun _ => 0))), (rf 15, .inl (c2, 400, .inl (fun _ => 0))), (rf 16, .inl (c3, 400, .inl (fun _ => 0))), (rf 17, .inl (c4, 400, .inl (fun _ => 0))), (h0, .inr (7, MO rf 0 0 0 0 0))] H := hP
  have hD : va_D A [(rf 14, .inl (c1, 400, .inl (fun _ => 0))), (rf 15, .inl (c2, 400, .inl (fun _ => 0))), (rf 16, .inl (c3, 400, .inl (fun _ => 0))), (rf 17, .inl (c4, 400, .inl (fun _ => 0))), (h0, .inr (7, MO rf 0 0 0 0 0))] := hD
  refine lv_aload_n hx hb dX7_parse_26 rfl (lv_at hl 0 rfl) ?_
  refine lv_iconst (v := 0) hx hb dX7_parse_27 (by decide) ?_
  refine va_put (D := (dC, dI)) (ci := 7) (v := .int 0) (ty := .int) (C := RX7) (T := TX7) (N := 55) hx hb hB inB7 tyX7 tyX7_ok nmX7 hown hK hP hD hS 4 rfl rfl 18 (by decide) (hB _ bg238) (fun _ h9 => h9) rfl (by decide +kernel) rfl rfl (Nat.le_of_ble_eq_true rfl) dX7_parse_28 (fun H locs hP hD hS => ?_)
  have hP : va_P (dC, dI) vwCl [(rf 14, .inl (c1, 400, .inl (fun _ => 0))), (rf 15, .inl (c2, 400, .inl (fun _ => 0))), (rf 16, .inl (c3, 400, .inl (fun _ => 0))), (rf 17, .inl (c4, 400, .inl (fun _ => 0))), (h0, .inr (7, MO rf 0 0 0 0 0))] H := hP
  have hD : va_D A [(rf 14, .inl (c1, 400, .inl (fun _ => 0))), (rf 15, .inl (c2, 400, .inl (fun _ => 0))), (rf 16, .inl (c3, 400, .inl (fun _ => 0))), (rf 17, .inl (c4, 400, .inl (fun _ => 0))), (h0, .inr (7, MO rf 0 0 0 0 0))] := hD
  refine lv_aload_n hx hb dX7_parse_31 rfl (lv_at hl 0 rfl) ?_
  refine lv_iconst (v := 0) hx hb dX7_parse_32 (by decide) ?_
  refine va_put (D := (dC, dI)) (ci := 7) (v := .int 0) (ty := .int) (C := RX7) (T := TX7) (N := 55) hx hb hB inB7 tyX7 tyX7_ok nmX7 hown hK hP hD hS 4 rfl rfl 20 (by decide) (hB _ bg264) (fun _ h9 => h9) rfl (by decide +kernel) rfl rfl (Nat.le_of_ble_eq_true rfl) dX7_parse_33 (fun H locs hP hD hS => ?_)
  have hP : va_P (dC, dI) vwCl [(rf 14, .inl (c1, 400, .inl (fun _ => 0))), (rf 15, .inl (c2, 400, .inl (fun _ => 0))), (rf 16, .inl (c3, 400, .inl (fun _ => 0))), (rf 17, .inl (c4, 400, .inl (fun _ => 0))), (h0, .inr (7, MO rf 0 0 0 0 0))] H := hP
  have hD : va_D A [(rf 14, .inl (c1, 400, .inl (fun _ => 0))), (rf 15, .inl (c2, 400, .inl (fun _ => 0))), (rf 16, .inl (c3, 400, .inl (fun _ => 0))), (rf 17, .inl (c4, 400, .inl (fun _ => 0))), (h0, .inr (7, MO rf 0 0 0 0 0))] := hD
  refine lv_aload_n hx hb dX7_parse_36 rfl (lv_at hl 0 rfl) ?_
  refine lv_iconst (v := 0) hx hb dX7_parse_37 (by decide) ?_
  refine va_put (D := (dC, dI)) (ci := 7) (v := .int 0) (ty := .int) (C := RX7) (T := TX7) (N := 55) hx hb hB inB7 tyX7 tyX7_ok nmX7 hown hK hP hD hS 4 rfl rfl 21 (by decide) (hB _ bg239) (fun _ h9 => h9) rfl (by decide +kernel) rfl rfl (Nat.le_of_ble_eq_true rfl) dX7_parse_38 (fun H locs hP hD hS => ?_)
  have hP : va_P (dC, dI) vwCl [(rf 14, .inl (c1, 400, .inl (fun _ => 0))), (rf 15, .inl (c2, 400, .inl (fun _ => 0))), (rf 16, .inl (c3, 400, .inl (fun _ => 0))), (rf 17, .inl (c4, 400, .inl (fun _ => 0))), (h0, .inr (7, MO rf 0 0 0 0 0))] H := hP
  have hD : va_D A [(rf 14, .inl (c1, 400, .inl (fun _ => 0))), (rf 15, .inl (c2, 400, .inl (fun _ => 0))), (rf 16, .inl (c3, 400, .inl (fun _ => 0))), (rf 17, .inl (c4, 400, .inl (fun _ => 0))), (h0, .inr (7, MO rf 0 0 0 0 0))] := hD
  refine lv_aload_n hx hb dX7_parse_41 rfl (lv_at hl 0 rfl) ?_
  refine lv_iconst (v := 0) hx hb dX7_parse_42 (by decide) ?_
  refine va_put (D := (dC, dI)) (ci := 7) (v := .int 0) (ty := .int) (C := RX7) (T := TX7) (N := 55) hx hb hB inB7 tyX7 tyX7_ok nmX7 hown hK hP hD hS 4 rfl rfl 22 (by decide) (hB _ bg243) (fun _ h9 => h9) rfl (by decide +kernel) rfl rfl (Nat.le_of_ble_eq_true rfl) dX7_parse_43 (fun H locs hP hD hS => ?_)
  have hP : va_P (dC, dI) vwCl [(rf 14, .inl (c1, 400, .inl (fun _ => 0))), (rf 15, .inl (c2, 400, .inl (fun _ => 0))), (rf 16, .inl (c3, 400, .inl (fun _ => 0))), (rf 17, .inl (c4, 400, .inl (fun _ => 0))), (h0, .inr (7, MO rf 0 0 0 0 0))] H := hP
  have hD : va_D A [(rf 14, .inl (c1, 400, .inl (fun _ => 0))), (rf 15, .inl (c2, 400, .inl (fun _ => 0))), (rf 16, .inl (c3, 400, .inl (fun _ => 0))), (rf 17, .inl (c4, 400, .inl (fun _ => 0))), (h0, .inr (7, MO rf 0 0 0 0 0))] := hD
  refine lv_aload_n hx hb dX7_parse_46 rfl (lv_at hl 0 rfl) ?_
  refine lv_iconst (v := 0) hx hb dX7_parse_47 (by decide) ?_
  refine lv_iconst (v := 0) hx hb dX7_parse_48 (by decide) ?_
  refine lv_iconst (v := 0) hx hb dX7_parse_49 (by decide) ?_
  refine lv_iconst (v := 0) hx hb dX7_parse_50 (by decide) ?_
  have hPc := hP.sub (ws' := [(h0, .inr (7, MO rf 0 0 0 0 0)), (rf 14, .inl (c1, 400, .inl (fun _ => 0))), (rf 15, .inl (c2, 400, .inl (fun _ => 0))), (rf 16, .inl (c3, 400, .inl (fun _ => 0))), (rf 17, .inl (c4, 400, .inl (fun _ => 0)))]) [4, 0, 1, 2, 3] rfl
  have hDc := hD.sub (ws' := [(h0, .inr (7, MO rf 0 0 0 0 0)), (rf 14, .inl (c1, 400, .inl (fun _ => 0))), (rf 15, .inl (c2, 400, .inl (fun _ => 0))), (rf 16, .inl (c3, 400, .inl (fun _ => 0))), (rf 17, .inl (c4, 400, .inl (fun _ => 0)))]) [4, 0, 1, 2, 3] (by decide) rfl
  have hKc := hK.sub (tys' := [(c1, .int), (c2, .int), (c3, .int), (c4, .int)]) [0, 1, 2, 3] rfl
  have hFc := va_free (wc := [(h0, .inr (7, MO rf 0 0 0 0 0)), (rf 14, .inl (c1, 400, .inl (fun _ => 0))), (rf 15, .inl (c2, 400, .inl (fun _ => 0))), (rf 16, .inl (c3, 400, .inl (fun _ => 0))), (rf 17, .inl (c4, 400, .inl (fun _ => 0)))]) hD hS hA [4, 0, 1, 2, 3] rfl
  refine va_callv (va_runV (As := [.int 0, .int 0, .int 0, .int 0]) (rest := []) ⟨hx, hb, hml, hown, hB⟩ (c_mput0 l dC dI h0 rf c1 c2 c3 c4 (fun _ => 0) (fun _ => 0) (fun _ => 0) (fun _ => 0) 0 0 0 0 H.size) (cwV 4 hB (bgV bg255 bg256 bg257 bg225 bg258) rfl rfl rfl (by decide +kernel) ⟨Nat.le_of_ble_eq_true rfl, Nat.le_of_ble_eq_true rfl⟩) ⟨fun a U g mk q => by obtain ⟨q0, q1, qP, qK, qD⟩ := q; exact ⟨q0, q1, qP, va_K.moved (u := U) (U := U.calling g mk a) (Vm.Alike.refl U.vm) qK, qD⟩, va_recv hKc hPc (ci := 7) (q0 := 0) rfl rfl, fun U hU hW => ⟨rfl, by rw [hU], by rw [hU]; exact hPc, va_K.moved hW.alike hKc, hDc.weaken (fun _ _ _ _ => trivial)⟩⟩ rfl rfl hl.1 rfl (lv_room (Nat.le_of_ble_eq_true rfl)) dX7_parse_51 ⟨Nat.le_of_ble_eq_true rfl, Nat.le_of_ble_eq_true rfl⟩) hS (fun q _ h => hFc q h) hFc (fun u9 t9 H1 locs ht9 hvm hw hB1 hz1 hk1 hS => ?_)
  obtain ⟨g1_1, g2_2, g3_3, g4_4⟩ := u9
  try dsimp only at hB1 hw
  obtain ⟨hP1, hK1, hD1⟩ := hB1
  rw [ht9] at hP1
  have hK1 := va_K.moved hvm.symm hK1
  obtain ⟨w_5, w_6⟩ := hw
  obtain ⟨hP, hD⟩ := va_join (wr := []) (w1 := [(h0, .inr (7, MO rf 0 0 1 0 0)), (rf 14, .inl (c1, 400, .inl g1_1)), (rf 15, .inl (c2, 400, .inl g2_2)), (rf 16, .inl (c3, 400, .inl g3_3)), (rf 17, .inl (c4, 400, .inl g4_4))]) hP hD [4, 0, 1, 2, 3] [] rfl rfl (by decide) (by decide) hk1 hFc hP1 hD1
  have hK := (hK.sub (tys' := []) [] rfl).app hK1
  generalize H1 = H at hP hS ⊢
  have hP : va_P (dC, dI) vwCl [(h0, .inr (7, MO rf 0 0 1 0 0)), (rf 14, .inl (c1, 400, .inl g1_1)), (rf 15, .inl (c2, 400, .inl g2_2)), (rf 16, .inl (c3, 400, .inl g3_3)), (rf 17, .inl (c4, 400, .inl g4_4))] H := hP
  have hD : va_D A [(h0, .inr (7, MO rf 0 0 1 0 0)), (rf 14, .inl (c1, 400, .inl g1_1)), (rf 15, .inl (c2, 400, .inl g2_2)), (rf 16, .inl (c3, 400, .inl g3_3)), (rf 17, .inl (c4, 400, .inl g4_4))] := hD
  have hK : va_K (dC, dI) vwCl [(c1, .int), (c2, .int), (c3, .int), (c4, .int)] s := hK
  refine lv_aload_n hx hb dX7_parse_54 rfl (lv_at hl 0 rfl) ?_
  refine va_get (D := (dC, dI)) (ci := 7) (v := .int 1) (C := RX7) (T := TX7) (N := 55) hx hb hB inB7 hown hK hP 0 rfl rfl 18 (by decide) (hB _ bg238) (fun _ h9 => h9) rfl dX7_parse_55 ?_
  refine lv_if_le (tgt := 76) hx hb dX7_parse_58 (by decide) (fun c9 => absurd c9 (by decide)) (fun _ => ?_)
  refine lv_aload_n hx hb dX7_parse_61 rfl (lv_at hl 0 rfl) ?_
  have hPc := hP.sub (ws' := [(h0, .inr (7, MO rf 0 0 1 0 0)), (rf 14, .inl (c1, 400, .inl g1_1)), (rf 15, .inl (c2, 400, .inl g2_2)), (rf 16, .inl (c3, 400, .inl g3_3)), (rf 17, .inl (c4, 400, .inl g4_4))]) [0, 1, 2, 3, 4] rfl
  have hDc := hD.sub (ws' := [(h0, .inr (7, MO rf 0 0 1 0 0)), (rf 14, .inl (c1, 400, .inl g1_1)), (rf 15, .inl (c2, 400, .inl g2_2)), (rf 16, .inl (c3, 400, .inl g3_3)), (rf 17, .inl (c4, 400, .inl g4_4))]) [0, 1, 2, 3, 4] (by decide) rfl
  have hKc := hK.sub (tys' := [(c1, .int), (c2, .int), (c3, .int), (c4, .int)]) [0, 1, 2, 3] rfl
  have hFc := va_free (wc := [(h0, .inr (7, MO rf 0 0 1 0 0)), (rf 14, .inl (c1, 400, .inl g1_1)), (rf 15, .inl (c2, 400, .inl g2_2)), (rf 16, .inl (c3, 400, .inl g3_3)), (rf 17, .inl (c4, 400, .inl g4_4))]) hD hS hA [0, 1, 2, 3, 4] rfl
  refine va_calli (va_runV (As := []) (rest := []) ⟨hx, hb, hml, hown, hB⟩ (c_mread0_0 l dC dI h0 rf c1 c2 c3 c4 g1_1 g2_2 g3_3 g4_4 H.size w_5 w_6) (cwV 0 hB (bgV bg265 bg266 bg267 bg225 bg268) rfl rfl rfl (by decide +kernel) ⟨Nat.le_of_ble_eq_true rfl, Nat.le_of_ble_eq_true rfl⟩) ⟨fun a U g mk q => by obtain ⟨q0, q1, qP, qK, qD⟩ := q; exact ⟨q0, q1, qP, va_K.moved (u := U) (U := U.calling g mk a) (Vm.Alike.refl U.vm) qK, qD⟩, va_recv hKc hPc (ci := 7) (q0 := 0) rfl rfl, fun U hU hW => ⟨rfl, by rw [hU], by rw [hU]; exact hPc, va_K.moved hW.alike hKc, hDc.weaken (fun _ _ _ _ => trivial)⟩⟩ rfl rfl hl.1 rfl (lv_room (Nat.le_of_ble_eq_true rfl)) dX7_parse_62 ⟨Nat.le_of_ble_eq_true rfl, Nat.le_of_ble_eq_true rfl⟩) hS (fun q _ h => hFc q h) hFc (fun r9 u9 t9 H1 locs ht9 hvm hw hB1 hz1 hk1 hS => ?_)
  obtain ⟨g1_7, g2_8, g3_9, g4_10⟩ := u9
  try dsimp only at hB1 hw
  obtain ⟨hP1, hK1, hD1⟩ := hB1
  rw [ht9] at hP1
  have hK1 := va_K.moved hvm.symm hK1
  obtain ⟨rfl, w_11, w_12⟩ := hw
  obtain ⟨hP, hD⟩ := va_join (wr := []) (w1 := [(h0, .inr (7, MO rf 0 0 1 0 0)), (rf 14, .inl (c1, 400, .inl g1_7)), (rf 15, .inl (c2, 400, .inl g2_8)), (rf 16, .inl (c3, 400, .inl g3_9)), (rf 17, .inl (c4, 400, .inl g4_10))]) hP hD [0, 1, 2, 3, 4] [] rfl rfl (by decide) (by decide) hk1 hFc hP1 hD1
  have hK := (hK.sub (tys' := []) [] rfl).app hK1
  generalize H1 = H at hP hS ⊢
  have hP : va_P (dC, dI) vwCl [(h0, .inr (7, MO rf 0 0 1 0 0)), (rf 14, .inl (c1, 400, .inl g1_7)), (rf 15, .inl (c2, 400, .inl g2_8)), (rf 16, .inl (c3, 400, .inl g3_9)), (rf 17, .inl (c4, 400, .inl g4_10))] H := hP
  have hD : va_D A [(h0, .inr (7, MO rf 0 0 1 0 0)), (rf 14, .inl (c1, 400, .inl g1_7)), (rf 15, .inl (c2, 400, .inl g2_8)), (rf 16, .inl (c3, 400, .inl g3_9)), (rf 17, .inl (c4, 400, .inl g4_10))] := hD
  have hK : va_K (dC, dI) vwCl [(c1, .int), (c2, .int), (c3, .int), (c4, .int)] s := hK
  refine lv_if_eq (tgt := 76) hx hb dX7_parse_65 (by decide) (fun c9 => absurd c9 (by decide)) (fun _ => ?_)
  refine lv_aload_n hx hb dX7_parse_68 rfl (lv_at hl 0 rfl) ?_
  refine lv_iconst (v := 0) hx hb dX7_parse_69 (by decide) ?_
  refine va_put (D := (dC, dI)) (ci := 7) (v := .int 0) (ty := .int) (C := RX7) (T := TX7) (N := 55) hx hb hB inB7 tyX7 tyX7_ok nmX7 hown hK hP hD hS 0 rfl rfl 22 (by decide) (hB _ bg243) (fun _ h9 => h9) rfl (by decide +kernel) rfl rfl (Nat.le_of_ble_eq_true rfl) dX7_parse_70 (fun H locs hP hD hS => ?_)
  have hP : va_P (dC, dI) vwCl [(h0, .inr (7, MO rf 0 0 1 0 0)), (rf 14, .inl (c1, 400, .inl g1_7)), (rf 15, .inl (c2, 400, .inl g2_8)), (rf 16, .inl (c3, 400, .inl g3_9)), (rf 17, .inl (c4, 400, .inl g4_10))] H := hP
  have hD : va_D A [(h0, .inr (7, MO rf 0 0 1 0 0)), (rf 14, .inl (c1, 400, .inl g1_7)), (rf 15, .inl (c2, 400, .inl g2_8)), (rf 16, .inl (c3, 400, .inl g3_9)), (rf 17, .inl (c4, 400, .inl g4_10))] := hD
  refine lv_goto (tgt := 54) hx hb dX7_parse_73 (by decide) ?_
  refine lv_aload_n hx hb dX7_parse_54 rfl (lv_at hl 0 rfl) ?_
  refine va_get (D := (dC, dI)) (ci := 7) (v := .int 1) (C := RX7) (T := TX7) (N := 55) hx hb hB inB7 hown hK hP 0 rfl rfl 18 (by decide) (hB _ bg238) (fun _ h9 => h9) rfl dX7_parse_55 ?_
  refine lv_if_le (tgt := 76) hx hb dX7_parse_58 (by decide) (fun c9 => absurd c9 (by decide)) (fun _ => ?_)
  refine lv_aload_n hx hb dX7_parse_61 rfl (lv_at hl 0 rfl) ?_
  have hPc := hP.sub (ws' := [(h0, .inr (7, MO rf 0 0 1 0 0)), (rf 14, .inl (c1, 400, .inl g1_7)), (rf 15, .inl (c2, 400, .inl g2_8)), (rf 16, .inl (c3, 400, .inl g3_9)), (rf 17, .inl (c4, 400, .inl g4_10))]) [0, 1, 2, 3, 4] rfl
  have hDc := hD.sub (ws' := [(h0, .inr (7, MO rf 0 0 1 0 0)), (rf 14, .inl (c1, 400, .inl g1_7)), (rf 15, .inl (c2, 400, .inl g2_8)), (rf 16, .inl (c3, 400, .inl g3_9)), (rf 17, .inl (c4, 400, .inl g4_10))]) [0, 1, 2, 3, 4] (by decide) rfl
  have hKc := hK.sub (tys' := [(c1, .int), (c2, .int), (c3, .int), (c4, .int)]) [0, 1, 2, 3] rfl
  have hFc := va_free (wc := [(h0, .inr (7, MO rf 0 0 1 0 0)), (rf 14, .inl (c1, 400, .inl g1_7)), (rf 15, .inl (c2, 400, .inl g2_8)), (rf 16, .inl (c3, 400, .inl g3_9)), (rf 17, .inl (c4, 400, .inl g4_10))]) hD hS hA [0, 1, 2, 3, 4] rfl
  refine va_calli (va_runV (As := []) (rest := []) ⟨hx, hb, hml, hown, hB⟩ (c_mread0_1 l dC dI h0 rf c1 c2 c3 c4 g1_7 g2_8 g3_9 g4_10 H.size w_11 w_12) (cwV 0 hB (bgV bg265 bg266 bg267 bg225 bg268) rfl rfl rfl (by decide +kernel) ⟨Nat.le_of_ble_eq_true rfl, Nat.le_of_ble_eq_true rfl⟩) ⟨fun a U g mk q => by obtain ⟨q0, q1, qP, qK, qD⟩ := q; exact ⟨q0, q1, qP, va_K.moved (u := U) (U := U.calling g mk a) (Vm.Alike.refl U.vm) qK, qD⟩, va_recv hKc hPc (ci := 7) (q0 := 0) rfl rfl, fun U hU hW => ⟨rfl, by rw [hU], by rw [hU]; exact hPc, va_K.moved hW.alike hKc, hDc.weaken (fun _ _ _ _ => trivial)⟩⟩ rfl rfl hl.1 rfl (lv_room (Nat.le_of_ble_eq_true rfl)) dX7_parse_62 ⟨Nat.le_of_ble_eq_true rfl, Nat.le_of_ble_eq_true rfl⟩) hS (fun q _ h => hFc q h) hFc (fun r9 u9 t9 H1 locs ht9 hvm hw hB1 hz1 hk1 hS => ?_)
  obtain ⟨g1_13, g2_14, g3_15, g4_16⟩ := u9
  try dsimp only at hB1 hw
  obtain ⟨hP1, hK1, hD1⟩ := hB1
  rw [ht9] at hP1
  have hK1 := va_K.moved hvm.symm hK1
  obtain ⟨rfl, w_17, w_18⟩ := hw
  obtain ⟨hP, hD⟩ := va_join (wr := []) (w1 := [(h0, .inr (7, MO rf 0 0 2 0 0)), (rf 14, .inl (c1, 400, .inl g1_13)), (rf 15, .inl (c2, 400, .inl g2_14)), (rf 16, .inl (c3, 400, .inl g3_15)), (rf 17, .inl (c4, 400, .inl g4_16))]) hP hD [0, 1, 2, 3, 4] [] rfl rfl (by decide) (by decide) hk1 hFc hP1 hD1
  have hK := (hK.sub (tys' := []) [] rfl).app hK1
  generalize H1 = H at hP hS ⊢
  have hP : va_P (dC, dI) vwCl [(h0, .inr (7, MO rf 0 0 2 0 0)), (rf 14, .inl (c1, 400, .inl g1_13)), (rf 15, .inl (c2, 400, .inl g2_14)), (rf 16, .inl (c3, 400, .inl g3_15)), (rf 17, .inl (c4, 400, .inl g4_16))] H := hP
  have hD : va_D A [(h0, .inr (7, MO rf 0 0 2 0 0)), (rf 14, .inl (c1, 400, .inl g1_13)), (rf 15, .inl (c2, 400, .inl g2_14)), (rf 16, .inl (c3, 400, .inl g3_15)), (rf 17, .inl (c4, 400, .inl g4_16))] := hD
  have hK : va_K (dC, dI) vwCl [(c1, .int), (c2, .int), (c3, .int), (c4, .int)] s := hK
  refine lv_if_eq (tgt := 76) hx hb dX7_parse_65 (by decide) (fun c9 => absurd c9 (by decide)) (fun _ => ?_)
  refine lv_aload_n hx hb dX7_parse_68 rfl (lv_at hl 0 rfl) ?_
  refine lv_iconst (v := 0) hx hb dX7_parse_69 (by decide) ?_
  refine va_put (D := (dC, dI)) (ci := 7) (v := .int 0) (ty := .int) (C := RX7) (T := TX7) (N := 55) hx hb hB inB7 tyX7 tyX7_ok nmX7 hown hK hP hD hS 0 rfl rfl 22 (by decide) (hB _ bg243) (fun _ h9 => h9) rfl (by decide +kernel) rfl rfl (Nat.le_of_ble_eq_true rfl) dX7_parse_70 (fun H locs hP hD hS => ?_)
  have hP : va_P (dC, dI) vwCl [(h0, .inr (7, MO rf 0 0 2 0 0)), (rf 14, .inl (c1, 400, .inl g1_13)), (rf 15, .inl (c2, 400, .inl g2_14)), (rf 16, .inl (c3, 400, .inl g3_15)), (rf 17, .inl (c4, 400, .inl g4_16))] H := hP
  have hD : va_D A [(h0, .inr (7, MO rf 0 0 2 0 0)), (rf 14, .inl (c1, 400, .inl g1_13)), (rf 15, .inl (c2, 400, .inl g2_14)), (rf 16, .inl (c3, 400, .inl g3_15)), (rf 17, .inl (c4, 400, .inl g4_16))] := hD
  refine lv_goto (tgt := 54) hx hb dX7_parse_73 (by decide) ?_
  refine lv_aload_n hx hb dX7_parse_54 rfl (lv_at hl 0 rfl) ?_
  refine va_get (D := (dC, dI)) (ci := 7) (v := .int 2) (C := RX7) (T := TX7) (N := 55) hx hb hB inB7 hown hK hP 0 rfl rfl 18 (by decide) (hB _ bg238) (fun _ h9 => h9) rfl dX7_parse_55 ?_
  refine lv_if_le (tgt := 76) hx hb dX7_parse_58 (by decide) (fun c9 => absurd c9 (by decide)) (fun _ => ?_)
  refine lv_aload_n hx hb dX7_parse_61 rfl (lv_at hl 0 rfl) ?_
  have hPc := hP.sub (ws' := [(h0, .inr (7, MO rf 0 0 2 0 0)), (rf 14, .inl (c1, 400, .inl g1_13)), (rf 15, .inl (c2, 400, .inl g2_14)), (rf 16, .inl (c3, 400, .inl g3_15)), (rf 17, .inl (c4, 400, .inl g4_16))]) [0, 1, 2, 3, 4] rfl
  have hDc := hD.sub (ws' := [(h0, .inr (7, MO rf 0 0 2 0 0)), (rf 14, .inl (c1, 400, .inl g1_13)), (rf 15, .inl (c2, 400, .inl g2_14)), (rf 16, .inl (c3, 400, .inl g3_15)), (rf 17, .inl (c4, 400, .inl g4_16))]) [0, 1, 2, 3, 4] (by decide) rfl
  have hKc := hK.sub (tys' := [(c1, .int), (c2, .int), (c3, .int), (c4, .int)]) [0, 1, 2, 3] rfl
  have hFc := va_free (wc := [(h0, .inr (7, MO rf 0 0 2 0 0)), (rf 14, .inl (c1, 400, .inl g1_13)), (rf 15, .inl (c2, 400, .inl g2_14)), (rf 16, .inl (c3, 400, .inl g3_15)), (rf 17, .inl (c4, 400, .inl g4_16))]) hD hS hA [0, 1, 2, 3, 4] rfl
  refine va_calli (va_runV (As := []) (rest := []) ⟨hx, hb, hml, hown, hB⟩ (c_mread1_3 l dC dI h0 rf c1 c2 c3 c4 g1_13 g2_14 g3_15 g4_16 H.size w_17 w_18) (cwV 0 hB (bgV bg265 bg266 bg267 bg225 bg268) rfl rfl rfl (by decide +kernel) ⟨Nat.le_of_ble_eq_true rfl, Nat.le_of_ble_eq_true rfl⟩) ⟨fun a U g mk q => by obtain ⟨q0, q1, qP, qK, qD⟩ := q; exact ⟨q0, q1, qP, va_K.moved (u := U) (U := U.calling g mk a) (Vm.Alike.refl U.vm) qK, qD⟩, va_recv hKc hPc (ci := 7) (q0 := 0) rfl rfl, fun U hU hW => ⟨rfl, by rw [hU], by rw [hU]; exact hPc, va_K.moved hW.alike hKc, hDc.weaken (fun _ _ _ _ => trivial)⟩⟩ rfl rfl hl.1 rfl (lv_room (Nat.le_of_ble_eq_true rfl)) dX7_parse_62 ⟨Nat.le_of_ble_eq_true rfl, Nat.le_of_ble_eq_true rfl⟩) hS (fun q _ h => hFc q h) hFc (fun r9 u9 t9 H1 locs ht9 hvm hw hB1 hz1 hk1 hS => ?_)
  obtain ⟨g1_19, g2_20, g3_21, g4_22⟩ := u9
  try dsimp only at hB1 hw
  obtain ⟨hP1, hK1, hD1⟩ := hB1
  rw [ht9] at hP1
  have hK1 := va_K.moved hvm.symm hK1
  obtain ⟨rfl, w_23, w_24⟩ := hw
  obtain ⟨hP, hD⟩ := va_join (wr := []) (w1 := [(h0, .inr (7, MO rf 0 0 3 0 0)), (rf 14, .inl (c1, 400, .inl g1_19)), (rf 15, .inl (c2, 400, .inl g2_20)), (rf 16, .inl (c3, 400, .inl g3_21)), (rf 17, .inl (c4, 400, .inl g4_22))]) hP hD [0, 1, 2, 3, 4] [] rfl rfl (by decide) (by decide) hk1 hFc hP1 hD1
  have hK := (hK.sub (tys' := []) [] rfl).app hK1
  generalize H1 = H at hP hS ⊢
  have hP : va_P (dC, dI) vwCl [(h0, .inr (7, MO rf 0 0 3 0 0)), (rf 14, .inl (c1, 400, .inl g1_19)), (rf 15, .inl (c2, 400, .inl g2_20)), (rf 16, .inl (c3, 400, .inl g3_21)), (rf 17, .inl (c4, 400, .inl g4_22))] H := hP
  have hD : va_D A [(h0, .inr (7, MO rf 0 0 3 0 0)), (rf 14, .inl (c1, 400, .inl g1_19)), (rf 15, .inl (c2, 400, .inl g2_20)), (rf 16, .inl (c3, 400, .inl g3_21)), (rf 17, .inl (c4, 400, .inl g4_22))] := hD
  have hK : va_K (dC, dI) vwCl [(c1, .int), (c2, .int), (c3, .int), (c4, .int)] s := hK
  refine lv_if_eq (tgt := 76) hx hb dX7_parse_65 (by decide) (fun c9 => absurd c9 (by decide)) (fun _ => ?_)
  refine lv_aload_n hx hb dX7_parse_68 rfl (lv_at hl 0 rfl) ?_
  refine lv_iconst (v := 0) hx hb dX7_parse_69 (by decide) ?_
  refine va_put (D := (dC, dI)) (ci := 7) (v := .int 0) (ty := .int) (C := RX7) (T := TX7) (N := 55) hx hb hB inB7 tyX7 tyX7_ok nmX7 hown hK hP hD hS 0 rfl rfl 22 (by decide) (hB _ bg243) (fun _ h9 => h9) rfl (by decide +kernel) rfl rfl (Nat.le_of_ble_eq_true rfl) dX7_parse_70 (fun H locs hP hD hS => ?_)
  have hP : va_P (dC, dI) vwCl [(h0, .inr (7, MO rf 0 0 3 0 0)), (rf 14, .inl (c1, 400, .inl g1_19)), (rf 15, .inl (c2, 400, .inl g2_20)), (rf 16, .inl (c3, 400, .inl g3_21)), (rf 17, .inl (c4, 400, .inl g4_22))] H := hP
  have hD : va_D A [(h0, .inr (7, MO rf 0 0 3 0 0)), (rf 14, .inl (c1, 400, .inl g1_19)), (rf 15, .inl (c2, 400, .inl g2_20)), (rf 16, .inl (c3, 400, .inl g3_21)), (rf 17, .inl (c4, 400, .inl g4_22))] := hD
  refine lv_goto (tgt := 54) hx hb dX7_parse_73 (by decide) ?_
  refine lv_aload_n hx hb dX7_parse_54 rfl (lv_at hl 0 rfl) ?_
  refine va_get (D := (dC, dI)) (ci := 7) (v := .int 3) (C := RX7) (T := TX7) (N := 55) hx hb hB inB7 hown hK hP 0 rfl rfl 18 (by decide) (hB _ bg238) (fun _ h9 => h9) rfl dX7_parse_55 ?_
  refine lv_if_le (tgt := 76) hx hb dX7_parse_58 (by decide) (fun c9 => absurd c9 (by decide)) (fun _ => ?_)
  refine lv_aload_n hx hb dX7_parse_61 rfl (lv_at hl 0 rfl) ?_
  have hPc := hP.sub (ws' := [(h0, .inr (7, MO rf 0 0 3 0 0)), (rf 14, .inl (c1, 400, .inl g1_19)), (rf 15, .inl (c2, 400, .inl g2_20)), (rf 16, .inl (c3, 400, .inl g3_21)), (rf 17, .inl (c4, 400, .inl g4_22))]) [0, 1, 2, 3, 4] rfl
  have hDc := hD.sub (ws' := [(h0, .inr (7, MO rf 0 0 3 0 0)), (rf 14, .inl (c1, 400, .inl g1_19)), (rf 15, .inl (c2, 400, .inl g2_20)), (rf 16, .inl (c3, 400, .inl g3_21)), (rf 17, .inl (c4, 400, .inl g4_22))]) [0, 1, 2, 3, 4] (by decide) rfl
  have hKc := hK.sub (tys' := [(c1, .int), (c2, .int), (c3, .int), (c4, .int)]) [0, 1, 2, 3] rfl
  have hFc := va_free (wc := [(h0, .inr (7, MO rf 0 0 3 0 0)), (rf 14, .inl (c1, 400, .inl g1_19)), (rf 15, .inl (c2, 400, .inl g2_20)), (rf 16, .inl (c3, 400, .inl g3_21)), (rf 17, .inl (c4, 400, .inl g4_22))]) hD hS hA [0, 1, 2, 3, 4] rfl
  refine va_calli (va_runV (As := []) (rest := []) ⟨hx, hb, hml, hown, hB⟩ (c_mread2_5 l dC dI h0 rf c1 c2 c3 c4 g1_19 g2_20 g3_21 g4_22 H.size w_23 w_24) (cwV 0 hB (bgV bg265 bg266 bg267 bg225 bg268) rfl rfl rfl (by decide +kernel) ⟨Nat.le_of_ble_eq_true rfl, Nat.le_of_ble_eq_true rfl⟩) ⟨fun a U g mk q => by obtain ⟨q0, q1, qP, qK, qD⟩ := q; exact ⟨q0, q1, qP, va_K.moved (u := U) (U := U.calling g mk a) (Vm.Alike.refl U.vm) qK, qD⟩, va_recv hKc hPc (ci := 7) (q0 := 0) rfl rfl, fun U hU hW => ⟨rfl, by rw [hU], by rw [hU]; exact hPc, va_K.moved hW.alike hKc, hDc.weaken (fun _ _ _ _ => trivial)⟩⟩ rfl rfl hl.1 rfl (lv_room (Nat.le_of_ble_eq_true rfl)) dX7_parse_62 ⟨Nat.le_of_ble_eq_true rfl, Nat.le_of_ble_eq_true rfl⟩) hS (fun q _ h => hFc q h) hFc (fun r9 u9 t9 H1 locs ht9 hvm hw hB1 hz1 hk1 hS => ?_)
  obtain ⟨g1_25, g2_26, g3_27, g4_28⟩ := u9
  try dsimp only at hB1 hw
  obtain ⟨hP1, hK1, hD1⟩ := hB1
  rw [ht9] at hP1
  have hK1 := va_K.moved hvm.symm hK1
  obtain ⟨rfl, w_29, w_30⟩ := hw
  obtain ⟨hP, hD⟩ := va_join (wr := []) (w1 := [(h0, .inr (7, MO rf 0 0 4 0 0)), (rf 14, .inl (c1, 400, .inl g1_25)), (rf 15, .inl (c2, 400, .inl g2_26)), (rf 16, .inl (c3, 400, .inl g3_27)), (rf 17, .inl (c4, 400, .inl g4_28))]) hP hD [0, 1, 2, 3, 4] [] rfl rfl (by decide) (by decide) hk1 hFc hP1 hD1
  have hK := (hK.sub (tys' := []) [] rfl).app hK1
  generalize H1 = H at hP hS ⊢
  have hP : va_P (dC, dI) vwCl [(h0, .inr (7, MO rf 0 0 4 0 0)), (rf 14, .inl (c1, 400, .inl g1_25)), (rf 15, .inl (c2, 400, .inl g2_26)), (rf 16, .inl (c3, 400, .inl g3_27)), (rf 17, .inl (c4, 400, .inl g4_28))] H := hP
  have hD : va_D A [(h0, .inr (7, MO rf 0 0 4 0 0)), (rf 14, .inl (c1, 400, .inl g1_25)), (rf 15, .inl (c2, 400, .inl g2_26)), (rf 16, .inl (c3, 400, .inl g3_27)), (rf 17, .inl (c4, 400, .inl g4_28))] := hD
  have hK : va_K (dC, dI) vwCl [(c1, .int), (c2, .int), (c3, .int), (c4, .int)] s := hK
  refine lv_if_eq (tgt := 76) hx hb dX7_parse_65 (by decide) (fun c9 => absurd c9 (by decide)) (fun _ => ?_)
  refine lv_aload_n hx hb dX7_parse_68 rfl (lv_at hl 0 rfl) ?_
  refine lv_iconst (v := 0) hx hb dX7_parse_69 (by decide) ?_
  refine va_put (D := (dC, dI)) (ci := 7) (v := .int 0) (ty := .int) (C := RX7) (T := TX7) (N := 55) hx hb hB inB7 tyX7 tyX7_ok nmX7 hown hK hP hD hS 0 rfl rfl 22 (by decide) (hB _ bg243) (fun _ h9 => h9) rfl (by decide +kernel) rfl rfl (Nat.le_of_ble_eq_true rfl) dX7_parse_70 (fun H locs hP hD hS => ?_)
  have hP : va_P (dC, dI) vwCl [(h0, .inr (7, MO rf 0 0 4 0 0)), (rf 14, .inl (c1, 400, .inl g1_25)), (rf 15, .inl (c2, 400, .inl g2_26)), (rf 16, .inl (c3, 400, .inl g3_27)), (rf 17, .inl (c4, 400, .inl g4_28))] H := hP
  have hD : va_D A [(h0, .inr (7, MO rf 0 0 4 0 0)), (rf 14, .inl (c1, 400, .inl g1_25)), (rf 15, .inl (c2, 400, .inl g2_26)), (rf 16, .inl (c3, 400, .inl g3_27)), (rf 17, .inl (c4, 400, .inl g4_28))] := hD
  refine lv_goto (tgt := 54) hx hb dX7_parse_73 (by decide) ?_
  refine lv_aload_n hx hb dX7_parse_54 rfl (lv_at hl 0 rfl) ?_
  refine va_get (D := (dC, dI)) (ci := 7) (v := .int 4) (C := RX7) (T := TX7) (N := 55) hx hb hB inB7 hown hK hP 0 rfl rfl 18 (by decide) (hB _ bg238) (fun _ h9 => h9) rfl dX7_parse_55 ?_
  refine lv_if_le (tgt := 76) hx hb dX7_parse_58 (by decide) (fun c9 => absurd c9 (by decide)) (fun _ => ?_)
  refine lv_aload_n hx hb dX7_parse_61 rfl (lv_at hl 0 rfl) ?_
  have hPc := hP.sub (ws' := [(h0, .inr (7, MO rf 0 0 4 0 0)), (rf 14, .inl (c1, 400, .inl g1_25)), (rf 15, .inl (c2, 400, .inl g2_26)), (rf 16, .inl (c3, 400, .inl g3_27)), (rf 17, .inl (c4, 400, .inl g4_28))]) [0, 1, 2, 3, 4] rfl
  have hDc := hD.sub (ws' := [(h0, .inr (7, MO rf 0 0 4 0 0)), (rf 14, .inl (c1, 400, .inl g1_25)), (rf 15, .inl (c2, 400, .inl g2_26)), (rf 16, .inl (c3, 400, .inl g3_27)), (rf 17, .inl (c4, 400, .inl g4_28))]) [0, 1, 2, 3, 4] (by decide) rfl
  have hKc := hK.sub (tys' := [(c1, .int), (c2, .int), (c3, .int), (c4, .int)]) [0, 1, 2, 3] rfl
  have hFc := va_free (wc := [(h0, .inr (7, MO rf 0 0 4 0 0)), (rf 14, .inl (c1, 400, .inl g1_25)), (rf 15, .inl (c2, 400, .inl g2_26)), (rf 16, .inl (c3, 400, .inl g3_27)), (rf 17, .inl (c4, 400, .inl g4_28))]) hD hS hA [0, 1, 2, 3, 4] rfl
  refine va_calli (va_runV (As := []) (rest := []) ⟨hx, hb, hml, hown, hB⟩ (c_mread3_7 l dC dI h0 rf c1 c2 c3 c4 g1_25 g2_26 g3_27 g4_28 H.size w_29 w_30) (cwV 0 hB (bgV bg265 bg266 bg267 bg225 bg268) rfl rfl rfl (by decide +kernel) ⟨Nat.le_of_ble_eq_true rfl, Nat.le_of_ble_eq_true rfl⟩) ⟨fun a U g mk q => by obtain ⟨q0, q1, qP, qK, qD⟩ := q; exact ⟨q0, q1, qP, va_K.moved (u := U) (U := U.calling g mk a) (Vm.Alike.refl U.vm) qK, qD⟩, va_recv hKc hPc (ci := 7) (q0 := 0) rfl rfl, fun U hU hW => ⟨rfl, by rw [hU], by rw [hU]; exact hPc, va_K.moved hW.alike hKc, hDc.weaken (fun _ _ _ _ => trivial)⟩⟩ rfl rfl hl.1 rfl (lv_room (Nat.le_of_ble_eq_true rfl)) dX7_parse_62 ⟨Nat.le_of_ble_eq_true rfl, Nat.le_of_ble_eq_true rfl⟩) hS (fun q _ h => hFc q h) hFc (fun r9 u9 t9 H1 locs ht9 hvm hw hB1 hz1 hk1 hS => ?_)
  obtain ⟨g1_31, g2_32, g3_33, g4_34⟩ := u9
  try dsimp only at hB1 hw
  obtain ⟨hP1, hK1, hD1⟩ := hB1
  rw [ht9] at hP1
  have hK1 := va_K.moved hvm.symm hK1
  obtain ⟨rfl, w_35, w_36⟩ := hw
  obtain ⟨hP, hD⟩ := va_join (wr := []) (w1 := [(h0, .inr (7, MO rf 0 0 5 0 0)), (rf 14, .inl (c1, 400, .inl g1_31)), (rf 15, .inl (c2, 400, .inl g2_32)), (rf 16, .inl (c3, 400, .inl g3_33)), (rf 17, .inl (c4, 400, .inl g4_34))]) hP hD [0, 1, 2, 3, 4] [] rfl rfl (by decide) (by decide) hk1 hFc hP1 hD1
  have hK := (hK.sub (tys' := []) [] rfl).app hK1
  generalize H1 = H at hP hS ⊢
  have hP : va_P (dC, dI) vwCl [(h0, .inr (7, MO rf 0 0 5 0 0)), (rf 14, .inl (c1, 400, .inl g1_31)), (rf 15, .inl (c2, 400, .inl g2_32)), (rf 16, .inl (c3, 400, .inl g3_33)), (rf 17, .inl (c4, 400, .inl g4_34))] H := hP
  have hD : va_D A [(h0, .inr (7, MO rf 0 0 5 0 0)), (rf 14, .inl (c1, 400, .inl g1_31)), (rf 15, .inl (c2, 400, .inl g2_32)), (rf 16, .inl (c3, 400, .inl g3_33)), (rf 17, .inl (c4, 400, .inl g4_34))] := hD
  have hK : va_K (dC, dI) vwCl [(c1, .int), (c2, .int), (c3, .int), (c4, .int)] s := hK
  refine lv_if_eq (tgt := 76) hx hb dX7_parse_65 (by decide) (fun c9 => absurd c9 (by decide)) (fun _ => ?_)
  refine lv_aload_n hx hb dX7_parse_68 rfl (lv_at hl 0 rfl) ?_
  refine lv_iconst (v := 0) hx hb dX7_parse_69 (by decide) ?_
  refine va_put (D := (dC, dI)) (ci := 7) (v := .int 0) (ty := .int) (C := RX7) (T := TX7) (N := 55) hx hb hB inB7 tyX7 tyX7_ok nmX7 hown hK hP hD hS 0 rfl rfl 22 (by decide) (hB _ bg243) (fun _ h9 => h9) rfl (by decide +kernel) rfl rfl (Nat.le_of_ble_eq_true rfl) dX7_parse_70 (fun H locs hP hD hS => ?_)
  have hP : va_P (dC, dI) vwCl [(h0, .inr (7, MO rf 0 0 5 0 0)), (rf 14, .inl (c1, 400, .inl g1_31)), (rf 15, .inl (c2, 400, .inl g2_32)), (rf 16, .inl (c3, 400, .inl g3_33)), (rf 17, .inl (c4, 400, .inl g4_34))] H := hP
  have hD : va_D A [(h0, .inr (7, MO rf 0 0 5 0 0)), (rf 14, .inl (c1, 400, .inl g1_31)), (rf 15, .inl (c2, 400, .inl g2_32)), (rf 16, .inl (c3, 400, .inl g3_33)), (rf 17, .inl (c4, 400, .inl g4_34))] := hD
  refine lv_goto (tgt := 54) hx hb dX7_parse_73 (by decide) ?_
  refine lv_aload_n hx hb dX7_parse_54 rfl (lv_at hl 0 rfl) ?_
  refine va_get (D := (dC, dI)) (ci := 7) (v := .int 5) (C := RX7) (T := TX7) (N := 55) hx hb hB inB7 hown hK hP 0 rfl rfl 18 (by decide) (hB _ bg238) (fun _ h9 => h9) rfl dX7_parse_55 ?_
  refine lv_if_le (tgt := 76) hx hb dX7_parse_58 (by decide) (fun c9 => absurd c9 (by decide)) (fun _ => ?_)
  refine lv_aload_n hx hb dX7_parse_61 rfl (lv_at hl 0 rfl) ?_
  have hPc := hP.sub (ws' := [(h0, .inr (7, MO rf 0 0 5 0 0)), (rf 14, .inl (c1, 400, .inl g1_31)), (rf 15, .inl (c2, 400, .inl g2_32)), (rf 16, .inl (c3, 400, .inl g3_33)), (rf 17, .inl (c4, 400, .inl g4_34))]) [0, 1, 2, 3, 4] rfl
  have hDc := hD.sub (ws' := [(h0, .inr (7, MO rf 0 0 5 0 0)), (rf 14, .inl (c1, 400, .inl g1_31)), (rf 15, .inl (c2, 400, .inl g2_32)), (rf 16, .inl (c3, 400, .inl g3_33)), (rf 17, .inl (c4, 400, .inl g4_34))]) [0, 1, 2, 3, 4] (by decide) rfl
  have hKc := hK.sub (tys' := [(c1, .int), (c2, .int), (c3, .int), (c4, .int)]) [0, 1, 2, 3] rfl
  have hFc := va_free (wc := [(h0, .inr (7, MO rf 0 0 5 0 0)), (rf 14, .inl (c1, 400, .inl g1_31)), (rf 15, .inl (c2, 400, .inl g2_32)), (rf 16, .inl (c3, 400, .inl g3_33)), (rf 17, .inl (c4, 400, .inl g4_34))]) hD hS hA [0, 1, 2, 3, 4] rfl
  refine va_calli (va_runV (As := []) (rest := []) ⟨hx, hb, hml, hown, hB⟩ (c_mread4_9 l dC dI h0 rf c1 c2 c3 c4 g1_31 g2_32 g3_33 g4_34 H.size w_35 w_36) (cwV 0 hB (bgV bg265 bg266 bg267 bg225 bg268) rfl rfl rfl (by decide +kernel) ⟨Nat.le_of_ble_eq_true rfl, Nat.le_of_ble_eq_true rfl⟩) ⟨fun a U g mk q => by obtain ⟨q0, q1, qP, qK, qD⟩ := q; exact ⟨q0, q1, qP, va_K.moved (u := U) (U := U.calling g mk a) (Vm.Alike.refl U.vm) qK, qD⟩, va_recv hKc hPc (ci := 7) (q0 := 0) rfl rfl, fun U hU hW => ⟨rfl, by rw [hU], by rw [hU]; exact hPc, va_K.moved hW.alike hKc, hDc.weaken (fun _ _ _ _ => trivial)⟩⟩ rfl rfl hl.1 rfl (lv_room (Nat.le_of_ble_eq_true rfl)) dX7_parse_62 ⟨Nat.le_of_ble_eq_true rfl, Nat.le_of_ble_eq_true rfl⟩) hS (fun q _ h => hFc q h) hFc (fun r9 u9 t9 H1 locs ht9 hvm hw hB1 hz1 hk1 hS => ?_)
  obtain ⟨g1_37, g2_38, g3_39, g4_40⟩ := u9
  try dsimp only at hB1 hw
  obtain ⟨hP1, hK1, hD1⟩ := hB1
  rw [ht9] at hP1
  have hK1 := va_K.moved hvm.symm hK1
  obtain ⟨rfl, w_41, w_42⟩ := hw
  obtain ⟨hP, hD⟩ := va_join (wr := []) (w1 := [(h0, .inr (7, MO rf 0 0 6 0 0)), (rf 14, .inl (c1, 400, .inl g1_37)), (rf 15, .inl (c2, 400, .inl g2_38)), (rf 16, .inl (c3, 400, .inl g3_39)), (rf 17, .inl (c4, 400, .inl g4_40))]) hP hD [0, 1, 2, 3, 4] [] rfl rfl (by decide) (by decide) hk1 hFc hP1 hD1
  have hK := (hK.sub (tys' := []) [] rfl).app hK1
  generalize H1 = H at hP hS ⊢
  have hP : va_P (dC, dI) vwCl [(h0, .inr (7, MO rf 0 0 6 0 0)), (rf 14, .inl (c1, 400, .inl g1_37)), (rf 15, .inl (c2, 400, .inl g2_38)), (rf 16, .inl (c3, 400, .inl g3_39)), (rf 17, .inl (c4, 400, .inl g4_40))] H := hP
  have hD : va_D A [(h0, .inr (7, MO rf 0 0 6 0 0)), (rf 14, .inl (c1, 400, .inl g1_37)), (rf 15, .inl (c2, 400, .inl g2_38)), (rf 16, .inl (c3, 400, .inl g3_39)), (rf 17, .inl (c4, 400, .inl g4_40))] := hD
  have hK : va_K (dC, dI) vwCl [(c1, .int), (c2, .int), (c3, .int), (c4, .int)] s := hK
  refine lv_if_eq (tgt := 76) hx hb dX7_parse_65 (by decide) (fun c9 => absurd c9 (by decide)) (fun _ => ?_)
  refine lv_aload_n hx hb dX7_parse_68 rfl (lv_at hl 0 rfl) ?_
  refine lv_iconst (v := 0) hx hb dX7_parse_69 (by decide) ?_
  refine va_put (D := (dC, dI)) (ci := 7) (v := .int 0) (ty := .int) (C := RX7) (T := TX7) (N := 55) hx hb hB inB7 tyX7 tyX7_ok nmX7 hown hK hP hD hS 0 rfl rfl 22 (by decide) (hB _ bg243) (fun _ h9 => h9) rfl (by decide +kernel) rfl rfl (Nat.le_of_ble_eq_true rfl) dX7_parse_70 (fun H locs hP hD hS => ?_)
  have hP : va_P (dC, dI) vwCl [(h0, .inr (7, MO rf 0 0 6 0 0)), (rf 14, .inl (c1, 400, .inl g1_37)), (rf 15, .inl (c2, 400, .inl g2_38)), (rf 16, .inl (c3, 400, .inl g3_39)), (rf 17, .inl (c4, 400, .inl g4_40))] H := hP
  have hD : va_D A [(h0, .inr (7, MO rf 0 0 6 0 0)), (rf 14, .inl (c1, 400, .inl g1_37)), (rf 15, .inl (c2, 400, .inl g2_38)), (rf 16, .inl (c3, 400, .inl g3_39)), (rf 17, .inl (c4, 400, .inl g4_40))] := hD
  refine lv_goto (tgt := 54) hx hb dX7_parse_73 (by decide) ?_
  refine lv_aload_n hx hb dX7_parse_54 rfl (lv_at hl 0 rfl) ?_
  refine va_get (D := (dC, dI)) (ci := 7) (v := .int 6) (C := RX7) (T := TX7) (N := 55) hx hb hB inB7 hown hK hP 0 rfl rfl 18 (by decide) (hB _ bg238) (fun _ h9 => h9) rfl dX7_parse_55 ?_
  refine lv_if_le (tgt := 76) hx hb dX7_parse_58 (by decide) (fun c9 => absurd c9 (by decide)) (fun _ => ?_)
  refine lv_aload_n hx hb dX7_parse_61 rfl (lv_at hl 0 rfl) ?_
  have hPc := hP.sub (ws' := [(h0, .inr (7, MO rf 0 0 6 0 0)), (rf 14, .inl (c1, 400, .inl g1_37)), (rf 15, .inl (c2, 400, .inl g2_38)), (rf 16, .inl (c3, 400, .inl g3_39)), (rf 17, .inl (c4, 400, .inl g4_40))]) [0, 1, 2, 3, 4] rfl
  have hDc := hD.sub (ws' := [(h0, .inr (7, MO rf 0 0 6 0 0)), (rf 14, .inl (c1, 400, .inl g1_37)), (rf 15, .inl (c2, 400, .inl g2_38)), (rf 16, .inl (c3, 400, .inl g3_39)), (rf 17, .inl (c4, 400, .inl g4_40))]) [0, 1, 2, 3, 4] (by decide) rfl
  have hKc := hK.sub (tys' := [(c1, .int), (c2, .int), (c3, .int), (c4, .int)]) [0, 1, 2, 3] rfl
  have hFc := va_free (wc := [(h0, .inr (7, MO rf 0 0 6 0 0)), (rf 14, .inl (c1, 400, .inl g1_37)), (rf 15, .inl (c2, 400, .inl g2_38)), (rf 16, .inl (c3, 400, .inl g3_39)), (rf 17, .inl (c4, 400, .inl g4_40))]) hD hS hA [0, 1, 2, 3, 4] rfl
  refine va_calli (va_runV (As := []) (rest := []) ⟨hx, hb, hml, hown, hB⟩ (c_mread5_11 l dC dI h0 rf c1 c2 c3 c4 g1_37 g2_38 g3_39 g4_40 H.size w_41 w_42) (cwV 0 hB (bgV bg265 bg266 bg267 bg225 bg268) rfl rfl rfl (by decide +kernel) ⟨Nat.le_of_ble_eq_true rfl, Nat.le_of_ble_eq_true rfl⟩) ⟨fun a U g mk q => by obtain ⟨q0, q1, qP, qK, qD⟩ := q; exact ⟨q0, q1, qP, va_K.moved (u := U) (U := U.calling g mk a) (Vm.Alike.refl U.vm) qK, qD⟩, va_recv hKc hPc (ci := 7) (q0 := 0) rfl rfl, fun U hU hW => ⟨rfl, by rw [hU], by rw [hU]; exact hPc, va_K.moved hW.alike hKc, hDc.weaken (fun _ _ _ _ => trivial)⟩⟩ rfl rfl hl.1 rfl (lv_room (Nat.le_of_ble_eq_true rfl)) dX7_parse_62 ⟨Nat.le_of_ble_eq_true rfl, Nat.le_of_ble_eq_true rfl⟩) hS (fun q _ h => hFc q h) hFc (fun r9 u9 t9 H1 locs ht9 hvm hw hB1 hz1 hk1 hS => ?_)
  obtain ⟨g1_43, g2_44, g3_45, g4_46⟩ := u9
  try dsimp only at hB1 hw
  obtain ⟨hP1, hK1, hD1⟩ := hB1
  rw [ht9] at hP1
  have hK1 := va_K.moved hvm.symm hK1
  obtain rfl := hw
  obtain ⟨hP, hD⟩ := va_join (wr := []) (w1 := [(h0, .inr (7, MO rf 0 0 5 0 1)), (rf 14, .inl (c1, 400, .inl g1_43)), (rf 15, .inl (c2, 400, .inl g2_44)), (rf 16, .inl (c3, 400, .inl g3_45)), (rf 17, .inl (c4, 400, .inl g4_46))]) hP hD [0, 1, 2, 3, 4] [] rfl rfl (by decide) (by decide) hk1 hFc hP1 hD1
  have hK := (hK.sub (tys' := []) [] rfl).app hK1
  generalize H1 = H at hP hS ⊢
  have hP : va_P (dC, dI) vwCl [(h0, .inr (7, MO rf 0 0 5 0 1)), (rf 14, .inl (c1, 400, .inl g1_43)), (rf 15, .inl (c2, 400, .inl g2_44)), (rf 16, .inl (c3, 400, .inl g3_45)), (rf 17, .inl (c4, 400, .inl g4_46))] H := hP
  have hD : va_D A [(h0, .inr (7, MO rf 0 0 5 0 1)), (rf 14, .inl (c1, 400, .inl g1_43)), (rf 15, .inl (c2, 400, .inl g2_44)), (rf 16, .inl (c3, 400, .inl g3_45)), (rf 17, .inl (c4, 400, .inl g4_46))] := hD
  have hK : va_K (dC, dI) vwCl [(c1, .int), (c2, .int), (c3, .int), (c4, .int)] s := hK
  refine lv_if_eq (tgt := 76) hx hb dX7_parse_65 (by decide) (fun _ => ?_) (fun c9 => absurd c9 (by decide))
  refine lv_aload_n hx hb dX7_parse_76 rfl (lv_at hl 0 rfl) ?_
  refine va_get (D := (dC, dI)) (ci := 7) (v := .int 1) (C := RX7) (T := TX7) (N := 55) hx hb hB inB7 hown hK hP 0 rfl rfl 22 (by decide) (hB _ bg243) (fun _ h9 => h9) rfl dX7_parse_77 ?_
  refine lv_if_ne (tgt := 104) hx hb dX7_parse_80 (by decide) (fun _ => ?_) (fun c9 => absurd c9 (by decide))
  refine lv_aload_n hx hb dX7_parse_104 rfl (lv_at hl 0 rfl) ?_
  refine va_get (D := (dC, dI)) (ci := 7) (v := .int 1) (C := RX7) (T := TX7) (N := 55) hx hb hB inB7 hown hK hP 0 rfl rfl 22 (by decide) (hB _ bg243) (fun _ h9 => h9) rfl dX7_parse_105 ?_
  refine lv_if_eq (tgt := 116) hx hb dX7_parse_108 (by decide) (fun c9 => absurd c9 (by decide)) (fun _ => ?_)
  refine lv_aload_n hx hb dX7_parse_111 rfl (lv_at hl 0 rfl) ?_
  refine va_get (D := (dC, dI)) (ci := 7) (v := .int 1) (C := RX7) (T := TX7) (N := 55) hx hb hB inB7 hown hK hP 0 rfl rfl 22 (by decide) (hB _ bg243) (fun _ h9 => h9) rfl dX7_parse_112 ?_
  have hP9 := hP.sub (ws' := [(h0, .inr (7, MO rf 0 0 5 0 1))]) [0] rfl
  have hD9 := hD.sub (ws' := [(h0, .inr (7, MO rf 0 0 5 0 1))]) [0] (by decide) rfl
  have hK9 := hK.sub (tys' := []) [] rfl
  refine W.widen (k := 0) (n := 0) (by decide) (by decide) ?_
  exact W.iret (v := 1) hx hb hr (fun t9 ht9 hW => ⟨⟨1, (MO rf 0 0 5 0 1), rfl, ⟨rfl, rfl⟩, by rw [ht9]; exact hP9, va_K.moved hW.alike hK9, hD9⟩, hS.F ht9⟩) hS.2.2 dX7_parse_115
