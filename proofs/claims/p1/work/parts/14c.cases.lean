set_option maxHeartbeats 4000000 in
set_option maxRecDepth 100000 in
theorem law_outAt {p : Program} {l : Launch} {e : Env} {s : State} {m : MethodId} {below : List Frame} {meth : Method} {c : Code} (hl9 : l.stackTraces = false) {b : Nat} {xs : Nat → Int32} (C0 : lw_At p s m meth c b 2 xs) (dC : Nat → ClassId) (dI : Nat → Nat → Nat) (xx mm oo : Nat) (u v w : Nat → Nat) (cA : ClassId) (rf : Nat → Nat) (cf : Nat → ClassId) (cL : ClassId) (t : Int32) (hp : xs (1 : Int32).toNatClampNeg = t) (H : Heap) (locs : List Loc) (hK : va_K (dC, dI) vwCl [(cA, .int), (cf 0, .int), (cf 1, .int), (cf 2, .int), (cf 3, .int), (cf 4, .int), (cL, .long)] s) (hP : va_P (dC, dI) vwCl [(xx, .inr (6, CO u 0 0 0)), (u 0, .inl (cA, 60, .inl (fun _ => 0))), (u 1, .inr (2, [.ref (v 0), .ref (v 1), .ref (v 2), .ref (v 3), .ref (v 4), .int 0])), (u 2, .inr (1, [.ref (u 0), .ref (u 1), .int 0, .int 0, .int 0, .int (-1)])), (u 4, .inr (0, [.ref (u 1), .ref (w 1), .ref (w 2), .ref (w 3), .ref (w 4), .ref (w 5), .ref (w 6), .ref (w 7), .int 0, .int 0, .int 0, .int 0, .int 0, .int 0, .int 0, .int 0])), (mm, .inr (7, MO rf 0 0 0 0 0)), (rf 2, .inl ((cf 0), 60, .inl (fun _ => 0))), (rf 14, .inl ((cf 1), 400, .inl (fun _ => 0))), (rf 15, .inl ((cf 2), 400, .inl (fun _ => 0))), (rf 16, .inl ((cf 3), 400, .inl (fun _ => 0))), (rf 17, .inl ((cf 4), 400, .inl (fun _ => 0))), (oo, .inl (cL, 1, .inr (.inl (fun _ => 0))))] H) (hD : va_D (fun q : Nat => s.heap.size ≤ q) [(xx, .inr (6, CO u 0 0 0)), (u 0, .inl (cA, 60, .inl (fun _ => 0))), (u 1, .inr (2, [.ref (v 0), .ref (v 1), .ref (v 2), .ref (v 3), .ref (v 4), .int 0])), (u 2, .inr (1, [.ref (u 0), .ref (u 1), .int 0, .int 0, .int 0, .int (-1)])), (u 4, .inr (0, [.ref (u 1), .ref (w 1), .ref (w 2), .ref (w 3), .ref (w 4), .ref (w 5), .ref (w 6), .ref (w 7), .int 0, .int 0, .int 0, .int 0, .int 0, .int 0, .int 0, .int 0])), (mm, .inr (7, MO rf 0 0 0 0 0)), (rf 2, .inl ((cf 0), 60, .inl (fun _ => 0))), (rf 14, .inl ((cf 1), 400, .inl (fun _ => 0))), (rf 15, .inl ((cf 2), 400, .inl (fun _ => 0))), (rf 16, .inl ((cf 3), 400, .inl (fun _ => 0))), (rf 17, .inl ((cf 4), 400, .inl (fun _ => 0))), (oo, .inl (cL, 1, .inr (.inl (fun _ => 0))))]) (hS : va_S (fun q : Nat => s.heap.size ≤ q) s.heap H locs) (ls : Array Slot) (hl : lv_has ls 7 [(4, .int 0), (3, .ref oo), (2, .ref mm), (1, .ref xx), (0, .ref b)]) : W p l e room_1 s m #[Value.ref b] below meth c H locs 71 29142 (lw_Z below #[Value.ref b] s) (F0 m 409 ls []) := by
  obtain ⟨hx, hb, hr, hml, hown, hts, hX, hbl, hlocks, hgv⟩ := id C0
  have hown : s.vm.findClass RL = some m.cls := hown
  have hB : ∀ w ∈ BG, w.before #[Value.ref b] s = true := fun w h => hts w (BG_tb w h)
  have hA : ∀ q : Nat, s.heap.size ≤ q → (fun q : Nat => s.heap.size ≤ q) q := fun _ h => h
  have hbA : ¬ (fun q : Nat => s.heap.size ≤ q) b := Nat.not_le.mpr hbl
  obtain ⟨sa, hE0⟩ := xn_134 C0
  have hE := XN.kept hE0 hS.2.1
  refine lv_aload_n hx hb dL_law_409 rfl (lv_at hl 3 rfl) ?_
  refine lv_aload_n hx hb dL_law_410 rfl (lv_at hl 4 rfl) ?_
  refine lv_iload hx hb dL_law_411 (lv_at hl 0 rfl) ?_
  refine lv_iconst (v := 1) hx hb dL_law_413 (by decide) ?_
  refine lv_iadd hx hb dL_law_414 ?_
  rw [show (0 : Int32) + 1 = 1 by decide]
  refine va_sld hx hb hX hbl hbA hS (i := 1) (by rw [vp_in_iff]; decide) dL_law_415 ?_
  rw [hp]
  refine lv_aload_n hx hb dL_law_416 rfl (lv_at hl 1 rfl) ?_
  have hPc := hP.sub (ws' := [(xx, .inr (6, CO u 0 0 0))]) [0] rfl
  have hDc := hD.sub (ws' := [(xx, .inr (6, CO u 0 0 0))]) [0] (by decide) rfl
  have hKc := hK.sub (tys' := []) [] rfl
  have hFc := va_free (wc := [(xx, .inr (6, CO u 0 0 0))]) hD hS hA [0] rfl
  refine va_calli (vx_runSW (As := [.ref xx, .int t, .ref oo]) (rest := []) ⟨hx, hb, hml, hown, hB⟩ (cl_outAt l hl9 dC dI xx u t oo sa H.size) (vx_cwSW 3 hB (bgW bg376 bg377 bg395 bg378) rfl rfl rfl (by decide +kernel) ⟨Nat.le_of_ble_eq_true rfl, Nat.le_of_ble_eq_true rfl⟩) ⟨fun a U g mk q => by obtain ⟨q0, q1, qP, qK, qD, qE⟩ := q; exact ⟨q0, q1, qP, va_K.moved (u := U) (U := U.calling g mk a) (Vm.Alike.refl U.vm) qK, qD, XN.call qE⟩, fun U hU hW => ⟨rfl, by rw [hU], by rw [hU]; exact hPc, va_K.moved hW.alike hKc, hDc.weaken (fun _ _ _ _ => trivial), (by rw [hU]; exact XN.go hW hFc hE)⟩⟩ rfl rfl hl.1 rfl (lv_room (Nat.le_of_ble_eq_true rfl)) dL_law_417 ⟨Nat.le_of_ble_eq_true rfl, Nat.le_of_ble_eq_true rfl⟩) hS (fun q _ h => hFc q h) hFc (fun r9 u9 t9 H1 locs ht9 hvm hw hB1 hz1 hk1 hS => ?_)
  try dsimp only at hB1 hw
  obtain ⟨hP1, hK1, hD1⟩ := hB1
  rw [ht9] at hP1
  have hK1 := va_K.moved hvm.symm hK1
  obtain rfl := hw
  obtain ⟨hP, hD⟩ := va_join (wr := [(u 0, .inl (cA, 60, .inl (fun _ => 0))), (u 1, .inr (2, [.ref (v 0), .ref (v 1), .ref (v 2), .ref (v 3), .ref (v 4), .int 0])), (u 2, .inr (1, [.ref (u 0), .ref (u 1), .int 0, .int 0, .int 0, .int (-1)])), (u 4, .inr (0, [.ref (u 1), .ref (w 1), .ref (w 2), .ref (w 3), .ref (w 4), .ref (w 5), .ref (w 6), .ref (w 7), .int 0, .int 0, .int 0, .int 0, .int 0, .int 0, .int 0, .int 0])), (mm, .inr (7, MO rf 0 0 0 0 0)), (rf 2, .inl ((cf 0), 60, .inl (fun _ => 0))), (rf 14, .inl ((cf 1), 400, .inl (fun _ => 0))), (rf 15, .inl ((cf 2), 400, .inl (fun _ => 0))), (rf 16, .inl ((cf 3), 400, .inl (fun _ => 0))), (rf 17, .inl ((cf 4), 400, .inl (fun _ => 0))), (oo, .inl (cL, 1, .inr (.inl (fun _ => 0))))]) (w1 := []) hP hD [0] [1, 2, 3, 4, 5, 6, 7, 8, 9, 10, 11] rfl rfl (by decide) (by decide) hk1 hFc hP1 hD1
  have hK := (hK.sub (tys' := [(cA, .int), (cf 0, .int), (cf 1, .int), (cf 2, .int), (cf 3, .int), (cf 4, .int), (cL, .long)]) [0, 1, 2, 3, 4, 5, 6] rfl).app hK1
  generalize H1 = H at hP hS ⊢
  have hP : va_P (dC, dI) vwCl [(u 0, .inl (cA, 60, .inl (fun _ => 0))), (u 1, .inr (2, [.ref (v 0), .ref (v 1), .ref (v 2), .ref (v 3), .ref (v 4), .int 0])), (u 2, .inr (1, [.ref (u 0), .ref (u 1), .int 0, .int 0, .int 0, .int (-1)])), (u 4, .inr (0, [.ref (u 1), .ref (w 1), .ref (w 2), .ref (w 3), .ref (w 4), .ref (w 5), .ref (w 6), .ref (w 7), .int 0, .int 0, .int 0, .int 0, .int 0, .int 0, .int 0, .int 0])), (mm, .inr (7, MO rf 0 0 0 0 0)), (rf 2, .inl ((cf 0), 60, .inl (fun _ => 0))), (rf 14, .inl ((cf 1), 400, .inl (fun _ => 0))), (rf 15, .inl ((cf 2), 400, .inl (fun _ => 0))), (rf 16, .inl ((cf 3), 400, .inl (fun _ => 0))), (rf 17, .inl ((cf 4), 400, .inl (fun _ => 0))), (oo, .inl (cL, 1, .inr (.inl (fun _ => 0))))] H := hP
  have hD : va_D (fun q : Nat => s.heap.size ≤ q) [(u 0, .inl (cA, 60, .inl (fun _ => 0))), (u 1, .inr (2, [.ref (v 0), .ref (v 1), .ref (v 2), .ref (v 3), .ref (v 4), .int 0])), (u 2, .inr (1, [.ref (u 0), .ref (u 1), .int 0, .int 0, .int 0, .int (-1)])), (u 4, .inr (0, [.ref (u 1), .ref (w 1), .ref (w 2), .ref (w 3), .ref (w 4), .ref (w 5), .ref (w 6), .ref (w 7), .int 0, .int 0, .int 0, .int 0, .int 0, .int 0, .int 0, .int 0])), (mm, .inr (7, MO rf 0 0 0 0 0)), (rf 2, .inl ((cf 0), 60, .inl (fun _ => 0))), (rf 14, .inl ((cf 1), 400, .inl (fun _ => 0))), (rf 15, .inl ((cf 2), 400, .inl (fun _ => 0))), (rf 16, .inl ((cf 3), 400, .inl (fun _ => 0))), (rf 17, .inl ((cf 4), 400, .inl (fun _ => 0))), (oo, .inl (cL, 1, .inr (.inl (fun _ => 0))))] := hD
  have hK : va_K (dC, dI) vwCl [(cA, .int), (cf 0, .int), (cf 1, .int), (cf 2, .int), (cf 3, .int), (cf 4, .int), (cL, .long)] s := hK
  refine W.widen (k := 72) (n := 29148) (by decide) (by decide) ?_
  refine lv_istore (lv' := [(5, .int 1), (4, .int 0), (3, .ref oo), (2, .ref mm), (1, .ref xx), (0, .ref b)]) hx hb dL_law_420 hl (by decide) rfl (fun ls hl => ?_)
  refine lv_aload_n hx hb dL_law_422 rfl (lv_at hl 3 rfl) ?_
  refine lv_aload_n hx hb dL_law_423 rfl (lv_at hl 5 rfl) ?_
  refine lv_iload hx hb dL_law_424 (lv_at hl 1 rfl) ?_
  refine lv_iconst (v := 1) hx hb dL_law_426 (by decide) ?_
  refine lv_iadd hx hb dL_law_427 ?_
  rw [show (0 : Int32) + 1 = 1 by decide]
  refine va_sld hx hb hX hbl hbA hS (i := 1) (by rw [vp_in_iff]; decide) dL_law_428 ?_
  rw [hp]
  have hPc := hP.sub (ws' := [(mm, .inr (7, MO rf 0 0 0 0 0))]) [4] rfl
  have hDc := hD.sub (ws' := [(mm, .inr (7, MO rf 0 0 0 0 0))]) [4] (by decide) rfl
  have hKc := hK.sub (tys' := []) [] rfl
  have hFc := va_free (wc := [(mm, .inr (7, MO rf 0 0 0 0 0))]) hD hS hA [4] rfl
  refine va_calli (va_runV (As := [.int t]) (rest := []) ⟨hx, hb, hml, hown, hB⟩ (c_moutAt l dC dI mm rf t H.size) (cwV 1 hB (bgV bg379 bg380 bg381 bg225 bg382) rfl rfl rfl (by decide +kernel) ⟨Nat.le_of_ble_eq_true rfl, Nat.le_of_ble_eq_true rfl⟩) ⟨fun a U g mk q => by obtain ⟨q0, q1, qP, qK, qD⟩ := q; exact ⟨q0, q1, qP, va_K.moved (u := U) (U := U.calling g mk a) (Vm.Alike.refl U.vm) qK, qD⟩, va_recv hKc hPc (ci := 7) (q0 := 0) rfl rfl, fun U hU hW => ⟨rfl, by rw [hU], by rw [hU]; exact hPc, va_K.moved hW.alike hKc, hDc.weaken (fun _ _ _ _ => trivial)⟩⟩ rfl rfl hl.1 rfl (lv_room (Nat.le_of_ble_eq_true rfl)) dL_law_429 ⟨Nat.le_of_ble_eq_true rfl, Nat.le_of_ble_eq_true rfl⟩) hS (fun q _ h => hFc q h) hFc (fun r9 u9 t9 H1 locs ht9 hvm hw hB1 hz1 hk1 hS => ?_)
  obtain ⟨fs_1, rfl⟩ : ∃ z, z = u9 := ⟨_, rfl⟩
  try dsimp only at hB1 hw
  obtain ⟨hP1, hK1, hD1⟩ := hB1
  rw [ht9] at hP1
  have hK1 := va_K.moved hvm.symm hK1
  obtain ⟨rfl, w_2⟩ := hw
  obtain ⟨hP, hD⟩ := va_join (wr := [(u 0, .inl (cA, 60, .inl (fun _ => 0))), (u 1, .inr (2, [.ref (v 0), .ref (v 1), .ref (v 2), .ref (v 3), .ref (v 4), .int 0])), (u 2, .inr (1, [.ref (u 0), .ref (u 1), .int 0, .int 0, .int 0, .int (-1)])), (u 4, .inr (0, [.ref (u 1), .ref (w 1), .ref (w 2), .ref (w 3), .ref (w 4), .ref (w 5), .ref (w 6), .ref (w 7), .int 0, .int 0, .int 0, .int 0, .int 0, .int 0, .int 0, .int 0])), (rf 2, .inl ((cf 0), 60, .inl (fun _ => 0))), (rf 14, .inl ((cf 1), 400, .inl (fun _ => 0))), (rf 15, .inl ((cf 2), 400, .inl (fun _ => 0))), (rf 16, .inl ((cf 3), 400, .inl (fun _ => 0))), (rf 17, .inl ((cf 4), 400, .inl (fun _ => 0))), (oo, .inl (cL, 1, .inr (.inl (fun _ => 0))))]) (w1 := [(mm, .inr (7, fs_1))]) hP hD [4] [0, 1, 2, 3, 5, 6, 7, 8, 9, 10] rfl rfl (by decide) (by decide) hk1 hFc hP1 hD1
  have hK := (hK.sub (tys' := [(cA, .int), (cf 0, .int), (cf 1, .int), (cf 2, .int), (cf 3, .int), (cf 4, .int), (cL, .long)]) [0, 1, 2, 3, 4, 5, 6] rfl).app hK1
  generalize H1 = H at hP hS ⊢
  have hP : va_P (dC, dI) vwCl [(u 0, .inl (cA, 60, .inl (fun _ => 0))), (u 1, .inr (2, [.ref (v 0), .ref (v 1), .ref (v 2), .ref (v 3), .ref (v 4), .int 0])), (u 2, .inr (1, [.ref (u 0), .ref (u 1), .int 0, .int 0, .int 0, .int (-1)])), (u 4, .inr (0, [.ref (u 1), .ref (w 1), .ref (w 2), .ref (w 3), .ref (w 4), .ref (w 5), .ref (w 6), .ref (w 7), .int 0, .int 0, .int 0, .int 0, .int 0, .int 0, .int 0, .int 0])), (rf 2, .inl ((cf 0), 60, .inl (fun _ => 0))), (rf 14, .inl ((cf 1), 400, .inl (fun _ => 0))), (rf 15, .inl ((cf 2), 400, .inl (fun _ => 0))), (rf 16, .inl ((cf 3), 400, .inl (fun _ => 0))), (rf 17, .inl ((cf 4), 400, .inl (fun _ => 0))), (oo, .inl (cL, 1, .inr (.inl (fun _ => 0)))), (mm, .inr (7, fs_1))] H := hP
  have hD : va_D (fun q : Nat => s.heap.size ≤ q) [(u 0, .inl (cA, 60, .inl (fun _ => 0))), (u 1, .inr (2, [.ref (v 0), .ref (v 1), .ref (v 2), .ref (v 3), .ref (v 4), .int 0])), (u 2, .inr (1, [.ref (u 0), .ref (u 1), .int 0, .int 0, .int 0, .int (-1)])), (u 4, .inr (0, [.ref (u 1), .ref (w 1), .ref (w 2), .ref (w 3), .ref (w 4), .ref (w 5), .ref (w 6), .ref (w 7), .int 0, .int 0, .int 0, .int 0, .int 0, .int 0, .int 0, .int 0])), (rf 2, .inl ((cf 0), 60, .inl (fun _ => 0))), (rf 14, .inl ((cf 1), 400, .inl (fun _ => 0))), (rf 15, .inl ((cf 2), 400, .inl (fun _ => 0))), (rf 16, .inl ((cf 3), 400, .inl (fun _ => 0))), (rf 17, .inl ((cf 4), 400, .inl (fun _ => 0))), (oo, .inl (cL, 1, .inr (.inl (fun _ => 0)))), (mm, .inr (7, fs_1))] := hD
  have hK : va_K (dC, dI) vwCl [(cA, .int), (cf 0, .int), (cf 1, .int), (cf 2, .int), (cf 3, .int), (cf 4, .int), (cL, .long)] s := hK
  refine lv_istore (lv' := [(6, .int 0), (5, .int 1), (4, .int 0), (3, .ref oo), (2, .ref mm), (1, .ref xx), (0, .ref b)]) hx hb dL_law_432 hl (by decide) rfl (fun ls hl => ?_)
  refine lv_aload_n hx hb dL_law_434 rfl (lv_at hl 4 rfl) ?_
  have hPc := hP.sub (ws' := [(mm, .inr (7, fs_1))]) [10] rfl
  have hDc := hD.sub (ws' := [(mm, .inr (7, fs_1))]) [10] (by decide) rfl
  have hKc := hK.sub (tys' := []) [] rfl
  have hFc := va_free (wc := [(mm, .inr (7, fs_1))]) hD hS hA [10] rfl
  refine va_calli (va_runV (As := []) (rest := []) ⟨hx, hb, hml, hown, hB⟩ (c_thrown1 l dC dI mm fs_1 H.size w_2) (cwV 0 hB (bgV bg312 bg313 bg314 bg225 bg315) rfl rfl rfl (by decide +kernel) ⟨Nat.le_of_ble_eq_true rfl, Nat.le_of_ble_eq_true rfl⟩) ⟨fun a U g mk q => by obtain ⟨q0, q1, qP, qK, qD⟩ := q; exact ⟨q0, q1, qP, va_K.moved (u := U) (U := U.calling g mk a) (Vm.Alike.refl U.vm) qK, qD⟩, va_recv hKc hPc (ci := 7) (q0 := 0) rfl rfl, fun U hU hW => ⟨rfl, by rw [hU], by rw [hU]; exact hPc, va_K.moved hW.alike hKc, hDc.weaken (fun _ _ _ _ => trivial)⟩⟩ rfl rfl hl.1 rfl (lv_room (Nat.le_of_ble_eq_true rfl)) dL_law_435 ⟨Nat.le_of_ble_eq_true rfl, Nat.le_of_ble_eq_true rfl⟩) hS (fun q _ h => hFc q h) hFc (fun r9 u9 t9 H1 locs ht9 hvm hw hB1 hz1 hk1 hS => ?_)
  try dsimp only at hB1 hw
  obtain ⟨hP1, hK1, hD1⟩ := hB1
  rw [ht9] at hP1
  have hK1 := va_K.moved hvm.symm hK1
  obtain rfl := hw
  obtain ⟨hP, hD⟩ := va_join (wr := [(u 0, .inl (cA, 60, .inl (fun _ => 0))), (u 1, .inr (2, [.ref (v 0), .ref (v 1), .ref (v 2), .ref (v 3), .ref (v 4), .int 0])), (u 2, .inr (1, [.ref (u 0), .ref (u 1), .int 0, .int 0, .int 0, .int (-1)])), (u 4, .inr (0, [.ref (u 1), .ref (w 1), .ref (w 2), .ref (w 3), .ref (w 4), .ref (w 5), .ref (w 6), .ref (w 7), .int 0, .int 0, .int 0, .int 0, .int 0, .int 0, .int 0, .int 0])), (rf 2, .inl ((cf 0), 60, .inl (fun _ => 0))), (rf 14, .inl ((cf 1), 400, .inl (fun _ => 0))), (rf 15, .inl ((cf 2), 400, .inl (fun _ => 0))), (rf 16, .inl ((cf 3), 400, .inl (fun _ => 0))), (rf 17, .inl ((cf 4), 400, .inl (fun _ => 0))), (oo, .inl (cL, 1, .inr (.inl (fun _ => 0))))]) (w1 := []) hP hD [10] [0, 1, 2, 3, 4, 5, 6, 7, 8, 9] rfl rfl (by decide) (by decide) hk1 hFc hP1 hD1
  have hK := (hK.sub (tys' := [(cA, .int), (cf 0, .int), (cf 1, .int), (cf 2, .int), (cf 3, .int), (cf 4, .int), (cL, .long)]) [0, 1, 2, 3, 4, 5, 6] rfl).app hK1
  generalize H1 = H at hP hS ⊢
  have hP : va_P (dC, dI) vwCl [(u 0, .inl (cA, 60, .inl (fun _ => 0))), (u 1, .inr (2, [.ref (v 0), .ref (v 1), .ref (v 2), .ref (v 3), .ref (v 4), .int 0])), (u 2, .inr (1, [.ref (u 0), .ref (u 1), .int 0, .int 0, .int 0, .int (-1)])), (u 4, .inr (0, [.ref (u 1), .ref (w 1), .ref (w 2), .ref (w 3), .ref (w 4), .ref (w 5), .ref (w 6), .ref (w 7), .int 0, .int 0, .int 0, .int 0, .int 0, .int 0, .int 0, .int 0])), (rf 2, .inl ((cf 0), 60, .inl (fun _ => 0))), (rf 14, .inl ((cf 1), 400, .inl (fun _ => 0))), (rf 15, .inl ((cf 2), 400, .inl (fun _ => 0))), (rf 16, .inl ((cf 3), 400, .inl (fun _ => 0))), (rf 17, .inl ((cf 4), 400, .inl (fun _ => 0))), (oo, .inl (cL, 1, .inr (.inl (fun _ => 0))))] H := hP
  have hD : va_D (fun q : Nat => s.heap.size ≤ q) [(u 0, .inl (cA, 60, .inl (fun _ => 0))), (u 1, .inr (2, [.ref (v 0), .ref (v 1), .ref (v 2), .ref (v 3), .ref (v 4), .int 0])), (u 2, .inr (1, [.ref (u 0), .ref (u 1), .int 0, .int 0, .int 0, .int (-1)])), (u 4, .inr (0, [.ref (u 1), .ref (w 1), .ref (w 2), .ref (w 3), .ref (w 4), .ref (w 5), .ref (w 6), .ref (w 7), .int 0, .int 0, .int 0, .int 0, .int 0, .int 0, .int 0, .int 0])), (rf 2, .inl ((cf 0), 60, .inl (fun _ => 0))), (rf 14, .inl ((cf 1), 400, .inl (fun _ => 0))), (rf 15, .inl ((cf 2), 400, .inl (fun _ => 0))), (rf 16, .inl ((cf 3), 400, .inl (fun _ => 0))), (rf 17, .inl ((cf 4), 400, .inl (fun _ => 0))), (oo, .inl (cL, 1, .inr (.inl (fun _ => 0))))] := hD
  have hK : va_K (dC, dI) vwCl [(cA, .int), (cf 0, .int), (cf 1, .int), (cf 2, .int), (cf 3, .int), (cf 4, .int), (cL, .long)] s := hK
  refine lv_iload hx hb dL_law_438 (lv_at hl 1 rfl) ?_
  refine lv_icmp_eq (tgt := 445) hx hb dL_law_440 (by decide) (fun _ => ?_) (fun c9 => absurd c9 (by decide))
  refine lv_iload hx hb dL_law_445 (lv_at hl 1 rfl) ?_
  refine lv_if_ne (tgt := 462) hx hb dL_law_447 (by decide) (fun _ => ?_) (fun c9 => absurd c9 (by decide))
  refine lv_goto (tgt := 490) hx hb dL_law_462 (by decide) ?_
  exact law_end C0 _ _ hS (by decide) (by decide) ls (lv_sub hl [6, 2] rfl)
set_option maxHeartbeats 4000000 in
set_option maxRecDepth 100000 in
theorem law_used0 {p : Program} {l : Launch} {e : Env} {s : State} {m : MethodId} {below : List Frame} {meth : Method} {c : Code} (hl9 : l.stackTraces = false) {b : Nat} {xs : Nat → Int32} (C0 : lw_At p s m meth c b 2 xs) (dC : Nat → ClassId) (dI : Nat → Nat → Nat) (xx mm oo : Nat) (u v w : Nat → Nat) (cA : ClassId) (rf : Nat → Nat) (cf : Nat → ClassId) (cL : ClassId) (hp : xs (1 : Int32).toNatClampNeg = 0) (H : Heap) (locs : List Loc) (hK : va_K (dC, dI) vwCl [(cA, .int), (cf 0, .int), (cf 1, .int), (cf 2, .int), (cf 3, .int), (cf 4, .int), (cL, .long)] s) (hP : va_P (dC, dI) vwCl [(xx, .inr (6, CO u 0 0 0)), (u 0, .inl (cA, 60, .inl (fun _ => 0))), (u 1, .inr (2, [.ref (v 0), .ref (v 1), .ref (v 2), .ref (v 3), .ref (v 4), .int 0])), (u 2, .inr (1, [.ref (u 0), .ref (u 1), .int 0, .int 0, .int 0, .int (-1)])), (u 4, .inr (0, [.ref (u 1), .ref (w 1), .ref (w 2), .ref (w 3), .ref (w 4), .ref (w 5), .ref (w 6), .ref (w 7), .int 0, .int 0, .int 0, .int 0, .int 0, .int 0, .int 0, .int 0])), (mm, .inr (7, MO rf 0 0 0 0 0)), (rf 2, .inl ((cf 0), 60, .inl (fun _ => 0))), (rf 14, .inl ((cf 1), 400, .inl (fun _ => 0))), (rf 15, .inl ((cf 2), 400, .inl (fun _ => 0))), (rf 16, .inl ((cf 3), 400, .inl (fun _ => 0))), (rf 17, .inl ((cf 4), 400, .inl (fun _ => 0))), (oo, .inl (cL, 1, .inr (.inl (fun _ => 0))))] H) (hD : va_D (fun q : Nat => s.heap.size ≤ q) [(xx, .inr (6, CO u 0 0 0)), (u 0, .inl (cA, 60, .inl (fun _ => 0))), (u 1, .inr (2, [.ref (v 0), .ref (v 1), .ref (v 2), .ref (v 3), .ref (v 4), .int 0])), (u 2, .inr (1, [.ref (u 0), .ref (u 1), .int 0, .int 0, .int 0, .int (-1)])), (u 4, .inr (0, [.ref (u 1), .ref (w 1), .ref (w 2), .ref (w 3), .ref (w 4), .ref (w 5), .ref (w 6), .ref (w 7), .int 0, .int 0, .int 0, .int 0, .int 0, .int 0, .int 0, .int 0])), (mm, .inr (7, MO rf 0 0 0 0 0)), (rf 2, .inl ((cf 0), 60, .inl (fun _ => 0))), (rf 14, .inl ((cf 1), 400, .inl (fun _ => 0))), (rf 15, .inl ((cf 2), 400, .inl (fun _ => 0))), (rf 16, .inl ((cf 3), 400, .inl (fun _ => 0))), (rf 17, .inl ((cf 4), 400, .inl (fun _ => 0))), (oo, .inl (cL, 1, .inr (.inl (fun _ => 0))))]) (hS : va_S (fun q : Nat => s.heap.size ≤ q) s.heap H locs) (ls : Array Slot) (hl : lv_has ls 7 [(4, .int 0), (3, .ref oo), (2, .ref mm), (1, .ref xx), (0, .ref b)]) : W p l e room_1 s m #[Value.ref b] below meth c H locs 71 29142 (lw_Z below #[Value.ref b] s) (F0 m 465 ls []) := by
  obtain ⟨hx, hb, hr, hml, hown, hts, hX, hbl, hlocks, hgv⟩ := id C0
  have hown : s.vm.findClass RL = some m.cls := hown
  have hB : ∀ w ∈ BG, w.before #[Value.ref b] s = true := fun w h => hts w (BG_tb w h)
  have hA : ∀ q : Nat, s.heap.size ≤ q → (fun q : Nat => s.heap.size ≤ q) q := fun _ h => h
  have hbA : ¬ (fun q : Nat => s.heap.size ≤ q) b := Nat.not_le.mpr hbl
  refine lv_aload_n hx hb dL_law_465 rfl (lv_at hl 3 rfl) ?_
  refine lv_aload_n hx hb dL_law_466 rfl (lv_at hl 4 rfl) ?_
  refine lv_iload hx hb dL_law_467 (lv_at hl 0 rfl) ?_
  refine lv_iconst (v := 1) hx hb dL_law_469 (by decide) ?_
  refine lv_iadd hx hb dL_law_470 ?_
  rw [show (0 : Int32) + 1 = 1 by decide]
  refine va_sld hx hb hX hbl hbA hS (i := 1) (by rw [vp_in_iff]; decide) dL_law_471 ?_
  rw [hp]
  have hPc := hP.sub (ws' := [(xx, .inr (6, CO u 0 0 0)), (u 4, .inr (0, [.ref (u 1), .ref (w 1), .ref (w 2), .ref (w 3), .ref (w 4), .ref (w 5), .ref (w 6), .ref (w 7), .int 0, .int 0, .int 0, .int 0, .int 0, .int 0, .int 0, .int 0]))]) [0, 4] rfl
  have hDc := hD.sub (ws' := [(xx, .inr (6, CO u 0 0 0)), (u 4, .inr (0, [.ref (u 1), .ref (w 1), .ref (w 2), .ref (w 3), .ref (w 4), .ref (w 5), .ref (w 6), .ref (w 7), .int 0, .int 0, .int 0, .int 0, .int 0, .int 0, .int 0, .int 0]))]) [0, 4] (by decide) rfl
  have hKc := hK.sub (tys' := []) [] rfl
  have hFc := va_free (wc := [(xx, .inr (6, CO u 0 0 0)), (u 4, .inr (0, [.ref (u 1), .ref (w 1), .ref (w 2), .ref (w 3), .ref (w 4), .ref (w 5), .ref (w 6), .ref (w 7), .int 0, .int 0, .int 0, .int 0, .int 0, .int 0, .int 0, .int 0]))]) hD hS hA [0, 4] rfl
  refine va_calli (va_runV (As := [.int 0]) (rest := []) ⟨hx, hb, hml, hown, hB⟩ (c_used0 l dC dI xx u w H.size) (cwV 1 hB (bgV bg383 bg384 bg385 bg89 bg386) rfl rfl rfl (by decide +kernel) ⟨Nat.le_of_ble_eq_true rfl, Nat.le_of_ble_eq_true rfl⟩) ⟨fun a U g mk q => by obtain ⟨q0, q1, qP, qK, qD⟩ := q; exact ⟨q0, q1, qP, va_K.moved (u := U) (U := U.calling g mk a) (Vm.Alike.refl U.vm) qK, qD⟩, va_recv hKc hPc (ci := 6) (q0 := 0) rfl rfl, fun U hU hW => ⟨rfl, by rw [hU], by rw [hU]; exact hPc, va_K.moved hW.alike hKc, hDc.weaken (fun _ _ _ _ => trivial)⟩⟩ rfl rfl hl.1 rfl (lv_room (Nat.le_of_ble_eq_true rfl)) dL_law_472 ⟨Nat.le_of_ble_eq_true rfl, Nat.le_of_ble_eq_true rfl⟩) hS (fun q _ h => hFc q h) hFc (fun r9 u9 t9 H1 locs ht9 hvm hw hB1 hz1 hk1 hS => ?_)
  try dsimp only at hB1 hw
  obtain ⟨hP1, hK1, hD1⟩ := hB1
  rw [ht9] at hP1
  have hK1 := va_K.moved hvm.symm hK1
  obtain rfl := hw
  obtain ⟨hP, hD⟩ := va_join (wr := [(u 0, .inl (cA, 60, .inl (fun _ => 0))), (u 1, .inr (2, [.ref (v 0), .ref (v 1), .ref (v 2), .ref (v 3), .ref (v 4), .int 0])), (u 2, .inr (1, [.ref (u 0), .ref (u 1), .int 0, .int 0, .int 0, .int (-1)])), (mm, .inr (7, MO rf 0 0 0 0 0)), (rf 2, .inl ((cf 0), 60, .inl (fun _ => 0))), (rf 14, .inl ((cf 1), 400, .inl (fun _ => 0))), (rf 15, .inl ((cf 2), 400, .inl (fun _ => 0))), (rf 16, .inl ((cf 3), 400, .inl (fun _ => 0))), (rf 17, .inl ((cf 4), 400, .inl (fun _ => 0))), (oo, .inl (cL, 1, .inr (.inl (fun _ => 0))))]) (w1 := []) hP hD [0, 4] [1, 2, 3, 5, 6, 7, 8, 9, 10, 11] rfl rfl (by decide) (by decide) hk1 hFc hP1 hD1
  have hK := (hK.sub (tys' := [(cA, .int), (cf 0, .int), (cf 1, .int), (cf 2, .int), (cf 3, .int), (cf 4, .int), (cL, .long)]) [0, 1, 2, 3, 4, 5, 6] rfl).app hK1
  generalize H1 = H at hP hS ⊢
  have hP : va_P (dC, dI) vwCl [(u 0, .inl (cA, 60, .inl (fun _ => 0))), (u 1, .inr (2, [.ref (v 0), .ref (v 1), .ref (v 2), .ref (v 3), .ref (v 4), .int 0])), (u 2, .inr (1, [.ref (u 0), .ref (u 1), .int 0, .int 0, .int 0, .int (-1)])), (mm, .inr (7, MO rf 0 0 0 0 0)), (rf 2, .inl ((cf 0), 60, .inl (fun _ => 0))), (rf 14, .inl ((cf 1), 400, .inl (fun _ => 0))), (rf 15, .inl ((cf 2), 400, .inl (fun _ => 0))), (rf 16, .inl ((cf 3), 400, .inl (fun _ => 0))), (rf 17, .inl ((cf 4), 400, .inl (fun _ => 0))), (oo, .inl (cL, 1, .inr (.inl (fun _ => 0))))] H := hP
  have hD : va_D (fun q : Nat => s.heap.size ≤ q) [(u 0, .inl (cA, 60, .inl (fun _ => 0))), (u 1, .inr (2, [.ref (v 0), .ref (v 1), .ref (v 2), .ref (v 3), .ref (v 4), .int 0])), (u 2, .inr (1, [.ref (u 0), .ref (u 1), .int 0, .int 0, .int 0, .int (-1)])), (mm, .inr (7, MO rf 0 0 0 0 0)), (rf 2, .inl ((cf 0), 60, .inl (fun _ => 0))), (rf 14, .inl ((cf 1), 400, .inl (fun _ => 0))), (rf 15, .inl ((cf 2), 400, .inl (fun _ => 0))), (rf 16, .inl ((cf 3), 400, .inl (fun _ => 0))), (rf 17, .inl ((cf 4), 400, .inl (fun _ => 0))), (oo, .inl (cL, 1, .inr (.inl (fun _ => 0))))] := hD
  have hK : va_K (dC, dI) vwCl [(cA, .int), (cf 0, .int), (cf 1, .int), (cf 2, .int), (cf 3, .int), (cf 4, .int), (cL, .long)] s := hK
  refine lv_aload_n hx hb dL_law_475 rfl (lv_at hl 2 rfl) ?_
  refine lv_aload_n hx hb dL_law_476 rfl (lv_at hl 4 rfl) ?_
  refine lv_iload hx hb dL_law_477 (lv_at hl 0 rfl) ?_
  refine lv_iconst (v := 1) hx hb dL_law_479 (by decide) ?_
  refine lv_iadd hx hb dL_law_480 ?_
  rw [show (0 : Int32) + 1 = 1 by decide]
  refine va_sld hx hb hX hbl hbA hS (i := 1) (by rw [vp_in_iff]; decide) dL_law_481 ?_
  rw [hp]
  have hPc := hP.sub (ws' := [(mm, .inr (7, MO rf 0 0 0 0 0))]) [3] rfl
  have hDc := hD.sub (ws' := [(mm, .inr (7, MO rf 0 0 0 0 0))]) [3] (by decide) rfl
  have hKc := hK.sub (tys' := []) [] rfl
  have hFc := va_free (wc := [(mm, .inr (7, MO rf 0 0 0 0 0))]) hD hS hA [3] rfl
  refine va_calli (va_runV (As := [.int 0]) (rest := [.int 0]) ⟨hx, hb, hml, hown, hB⟩ (c_mused0 l dC dI mm rf H.size) (cwV 1 hB (bgV bg387 bg388 bg389 bg225 bg390) rfl rfl rfl (by decide +kernel) ⟨Nat.le_of_ble_eq_true rfl, Nat.le_of_ble_eq_true rfl⟩) ⟨fun a U g mk q => by obtain ⟨q0, q1, qP, qK, qD⟩ := q; exact ⟨q0, q1, qP, va_K.moved (u := U) (U := U.calling g mk a) (Vm.Alike.refl U.vm) qK, qD⟩, va_recv hKc hPc (ci := 7) (q0 := 0) rfl rfl, fun U hU hW => ⟨rfl, by rw [hU], by rw [hU]; exact hPc, va_K.moved hW.alike hKc, hDc.weaken (fun _ _ _ _ => trivial)⟩⟩ rfl rfl hl.1 rfl (lv_room (Nat.le_of_ble_eq_true rfl)) dL_law_482 ⟨Nat.le_of_ble_eq_true rfl, Nat.le_of_ble_eq_true rfl⟩) hS (fun q _ h => hFc q h) hFc (fun r9 u9 t9 H1 locs ht9 hvm hw hB1 hz1 hk1 hS => ?_)
  obtain ⟨fs_1, rfl⟩ : ∃ z, z = u9 := ⟨_, rfl⟩
  try dsimp only at hB1 hw
  obtain ⟨hP1, hK1, hD1⟩ := hB1
  rw [ht9] at hP1
  have hK1 := va_K.moved hvm.symm hK1
  obtain ⟨rfl, w_2⟩ := hw
  obtain ⟨hP, hD⟩ := va_join (wr := [(u 0, .inl (cA, 60, .inl (fun _ => 0))), (u 1, .inr (2, [.ref (v 0), .ref (v 1), .ref (v 2), .ref (v 3), .ref (v 4), .int 0])), (u 2, .inr (1, [.ref (u 0), .ref (u 1), .int 0, .int 0, .int 0, .int (-1)])), (rf 2, .inl ((cf 0), 60, .inl (fun _ => 0))), (rf 14, .inl ((cf 1), 400, .inl (fun _ => 0))), (rf 15, .inl ((cf 2), 400, .inl (fun _ => 0))), (rf 16, .inl ((cf 3), 400, .inl (fun _ => 0))), (rf 17, .inl ((cf 4), 400, .inl (fun _ => 0))), (oo, .inl (cL, 1, .inr (.inl (fun _ => 0))))]) (w1 := [(mm, .inr (7, fs_1))]) hP hD [3] [0, 1, 2, 4, 5, 6, 7, 8, 9] rfl rfl (by decide) (by decide) hk1 hFc hP1 hD1
  have hK := (hK.sub (tys' := [(cA, .int), (cf 0, .int), (cf 1, .int), (cf 2, .int), (cf 3, .int), (cf 4, .int), (cL, .long)]) [0, 1, 2, 3, 4, 5, 6] rfl).app hK1
  generalize H1 = H at hP hS ⊢
  have hP : va_P (dC, dI) vwCl [(u 0, .inl (cA, 60, .inl (fun _ => 0))), (u 1, .inr (2, [.ref (v 0), .ref (v 1), .ref (v 2), .ref (v 3), .ref (v 4), .int 0])), (u 2, .inr (1, [.ref (u 0), .ref (u 1), .int 0, .int 0, .int 0, .int (-1)])), (rf 2, .inl ((cf 0), 60, .inl (fun _ => 0))), (rf 14, .inl ((cf 1), 400, .inl (fun _ => 0))), (rf 15, .inl ((cf 2), 400, .inl (fun _ => 0))), (rf 16, .inl ((cf 3), 400, .inl (fun _ => 0))), (rf 17, .inl ((cf 4), 400, .inl (fun _ => 0))), (oo, .inl (cL, 1, .inr (.inl (fun _ => 0)))), (mm, .inr (7, fs_1))] H := hP
  have hD : va_D (fun q : Nat => s.heap.size ≤ q) [(u 0, .inl (cA, 60, .inl (fun _ => 0))), (u 1, .inr (2, [.ref (v 0), .ref (v 1), .ref (v 2), .ref (v 3), .ref (v 4), .int 0])), (u 2, .inr (1, [.ref (u 0), .ref (u 1), .int 0, .int 0, .int 0, .int (-1)])), (rf 2, .inl ((cf 0), 60, .inl (fun _ => 0))), (rf 14, .inl ((cf 1), 400, .inl (fun _ => 0))), (rf 15, .inl ((cf 2), 400, .inl (fun _ => 0))), (rf 16, .inl ((cf 3), 400, .inl (fun _ => 0))), (rf 17, .inl ((cf 4), 400, .inl (fun _ => 0))), (oo, .inl (cL, 1, .inr (.inl (fun _ => 0)))), (mm, .inr (7, fs_1))] := hD
  have hK : va_K (dC, dI) vwCl [(cA, .int), (cf 0, .int), (cf 1, .int), (cf 2, .int), (cf 3, .int), (cf 4, .int), (cL, .long)] s := hK
  refine lv_icmp_eq (tgt := 490) hx hb dL_law_485 (by decide) (fun _ => ?_) (fun c9 => absurd c9 (by decide))
  exact law_end C0 _ _ hS (by decide) (by decide) ls (lv_sub hl [4, 0] rfl)
set_option maxHeartbeats 4000000 in
set_option maxRecDepth 100000 in
theorem law_used1 {p : Program} {l : Launch} {e : Env} {s : State} {m : MethodId} {below : List Frame} {meth : Method} {c : Code} (hl9 : l.stackTraces = false) {b : Nat} {xs : Nat → Int32} (C0 : lw_At p s m meth c b 2 xs) (dC : Nat → ClassId) (dI : Nat → Nat → Nat) (xx mm oo : Nat) (u v w : Nat → Nat) (cA : ClassId) (rf : Nat → Nat) (cf : Nat → ClassId) (cL : ClassId) (hp : xs (1 : Int32).toNatClampNeg = 1) (H : Heap) (locs : List Loc) (hK : va_K (dC, dI) vwCl [(cA, .int), (cf 0, .int), (cf 1, .int), (cf 2, .int), (cf 3, .int), (cf 4, .int), (cL, .long)] s) (hP : va_P (dC, dI) vwCl [(xx, .inr (6, CO u 0 0 0)), (u 0, .inl (cA, 60, .inl (fun _ => 0))), (u 1, .inr (2, [.ref (v 0), .ref (v 1), .ref (v 2), .ref (v 3), .ref (v 4), .int 0])), (u 2, .inr (1, [.ref (u 0), .ref (u 1), .int 0, .int 0, .int 0, .int (-1)])), (u 4, .inr (0, [.ref (u 1), .ref (w 1), .ref (w 2), .ref (w 3), .ref (w 4), .ref (w 5), .ref (w 6), .ref (w 7), .int 0, .int 0, .int 0, .int 0, .int 0, .int 0, .int 0, .int 0])), (mm, .inr (7, MO rf 0 0 0 0 0)), (rf 2, .inl ((cf 0), 60, .inl (fun _ => 0))), (rf 14, .inl ((cf 1), 400, .inl (fun _ => 0))), (rf 15, .inl ((cf 2), 400, .inl (fun _ => 0))), (rf 16, .inl ((cf 3), 400, .inl (fun _ => 0))), (rf 17, .inl ((cf 4), 400, .inl (fun _ => 0))), (oo, .inl (cL, 1, .inr (.inl (fun _ => 0))))] H) (hD : va_D (fun q : Nat => s.heap.size ≤ q) [(xx, .inr (6, CO u 0 0 0)), (u 0, .inl (cA, 60, .inl (fun _ => 0))), (u 1, .inr (2, [.ref (v 0), .ref (v 1), .ref (v 2), .ref (v 3), .ref (v 4), .int 0])), (u 2, .inr (1, [.ref (u 0), .ref (u 1), .int 0, .int 0, .int 0, .int (-1)])), (u 4, .inr (0, [.ref (u 1), .ref (w 1), .ref (w 2), .ref (w 3), .ref (w 4), .ref (w 5), .ref (w 6), .ref (w 7), .int 0, .int 0, .int 0, .int 0, .int 0, .int 0, .int 0, .int 0])), (mm, .inr (7, MO rf 0 0 0 0 0)), (rf 2, .inl ((cf 0), 60, .inl (fun _ => 0))), (rf 14, .inl ((cf 1), 400, .inl (fun _ => 0))), (rf 15, .inl ((cf 2), 400, .inl (fun _ => 0))), (rf 16, .inl ((cf 3), 400, .inl (fun _ => 0))), (rf 17, .inl ((cf 4), 400, .inl (fun _ => 0))), (oo, .inl (cL, 1, .inr (.inl (fun _ => 0))))]) (hS : va_S (fun q : Nat => s.heap.size ≤ q) s.heap H locs) (ls : Array Slot) (hl : lv_has ls 7 [(4, .int 0), (3, .ref oo), (2, .ref mm), (1, .ref xx), (0, .ref b)]) : W p l e room_1 s m #[Value.ref b] below meth c H locs 71 29142 (lw_Z below #[Value.ref b] s) (F0 m 465 ls []) := by
  obtain ⟨hx, hb, hr, hml, hown, hts, hX, hbl, hlocks, hgv⟩ := id C0
  have hown : s.vm.findClass RL = some m.cls := hown
  have hB : ∀ w ∈ BG, w.before #[Value.ref b] s = true := fun w h => hts w (BG_tb w h)
  have hA : ∀ q : Nat, s.heap.size ≤ q → (fun q : Nat => s.heap.size ≤ q) q := fun _ h => h
  have hbA : ¬ (fun q : Nat => s.heap.size ≤ q) b := Nat.not_le.mpr hbl
  refine lv_aload_n hx hb dL_law_465 rfl (lv_at hl 3 rfl) ?_
  refine lv_aload_n hx hb dL_law_466 rfl (lv_at hl 4 rfl) ?_
  refine lv_iload hx hb dL_law_467 (lv_at hl 0 rfl) ?_
  refine lv_iconst (v := 1) hx hb dL_law_469 (by decide) ?_
  refine lv_iadd hx hb dL_law_470 ?_
  rw [show (0 : Int32) + 1 = 1 by decide]
  refine va_sld hx hb hX hbl hbA hS (i := 1) (by rw [vp_in_iff]; decide) dL_law_471 ?_
  rw [hp]
  have hPc := hP.sub (ws' := [(xx, .inr (6, CO u 0 0 0)), (u 4, .inr (0, [.ref (u 1), .ref (w 1), .ref (w 2), .ref (w 3), .ref (w 4), .ref (w 5), .ref (w 6), .ref (w 7), .int 0, .int 0, .int 0, .int 0, .int 0, .int 0, .int 0, .int 0]))]) [0, 4] rfl
  have hDc := hD.sub (ws' := [(xx, .inr (6, CO u 0 0 0)), (u 4, .inr (0, [.ref (u 1), .ref (w 1), .ref (w 2), .ref (w 3), .ref (w 4), .ref (w 5), .ref (w 6), .ref (w 7), .int 0, .int 0, .int 0, .int 0, .int 0, .int 0, .int 0, .int 0]))]) [0, 4] (by decide) rfl
  have hKc := hK.sub (tys' := []) [] rfl
  have hFc := va_free (wc := [(xx, .inr (6, CO u 0 0 0)), (u 4, .inr (0, [.ref (u 1), .ref (w 1), .ref (w 2), .ref (w 3), .ref (w 4), .ref (w 5), .ref (w 6), .ref (w 7), .int 0, .int 0, .int 0, .int 0, .int 0, .int 0, .int 0, .int 0]))]) hD hS hA [0, 4] rfl
  refine va_calli (va_runV (As := [.int 1]) (rest := []) ⟨hx, hb, hml, hown, hB⟩ (c_used1 l dC dI xx u w H.size) (cwV 1 hB (bgV bg383 bg384 bg385 bg89 bg386) rfl rfl rfl (by decide +kernel) ⟨Nat.le_of_ble_eq_true rfl, Nat.le_of_ble_eq_true rfl⟩) ⟨fun a U g mk q => by obtain ⟨q0, q1, qP, qK, qD⟩ := q; exact ⟨q0, q1, qP, va_K.moved (u := U) (U := U.calling g mk a) (Vm.Alike.refl U.vm) qK, qD⟩, va_recv hKc hPc (ci := 6) (q0 := 0) rfl rfl, fun U hU hW => ⟨rfl, by rw [hU], by rw [hU]; exact hPc, va_K.moved hW.alike hKc, hDc.weaken (fun _ _ _ _ => trivial)⟩⟩ rfl rfl hl.1 rfl (lv_room (Nat.le_of_ble_eq_true rfl)) dL_law_472 ⟨Nat.le_of_ble_eq_true rfl, Nat.le_of_ble_eq_true rfl⟩) hS (fun q _ h => hFc q h) hFc (fun r9 u9 t9 H1 locs ht9 hvm hw hB1 hz1 hk1 hS => ?_)
  try dsimp only at hB1 hw
  obtain ⟨hP1, hK1, hD1⟩ := hB1
  rw [ht9] at hP1
  have hK1 := va_K.moved hvm.symm hK1
  obtain rfl := hw
  obtain ⟨hP, hD⟩ := va_join (wr := [(u 0, .inl (cA, 60, .inl (fun _ => 0))), (u 1, .inr (2, [.ref (v 0), .ref (v 1), .ref (v 2), .ref (v 3), .ref (v 4), .int 0])), (u 2, .inr (1, [.ref (u 0), .ref (u 1), .int 0, .int 0, .int 0, .int (-1)])), (mm, .inr (7, MO rf 0 0 0 0 0)), (rf 2, .inl ((cf 0), 60, .inl (fun _ => 0))), (rf 14, .inl ((cf 1), 400, .inl (fun _ => 0))), (rf 15, .inl ((cf 2), 400, .inl (fun _ => 0))), (rf 16, .inl ((cf 3), 400, .inl (fun _ => 0))), (rf 17, .inl ((cf 4), 400, .inl (fun _ => 0))), (oo, .inl (cL, 1, .inr (.inl (fun _ => 0))))]) (w1 := []) hP hD [0, 4] [1, 2, 3, 5, 6, 7, 8, 9, 10, 11] rfl rfl (by decide) (by decide) hk1 hFc hP1 hD1
  have hK := (hK.sub (tys' := [(cA, .int), (cf 0, .int), (cf 1, .int), (cf 2, .int), (cf 3, .int), (cf 4, .int), (cL, .long)]) [0, 1, 2, 3, 4, 5, 6] rfl).app hK1
  generalize H1 = H at hP hS ⊢
  have hP : va_P (dC, dI) vwCl [(u 0, .inl (cA, 60, .inl (fun _ => 0))), (u 1, .inr (2, [.ref (v 0), .ref (v 1), .ref (v 2), .ref (v 3), .ref (v 4), .int 0])), (u 2, .inr (1, [.ref (u 0), .ref (u 1), .int 0, .int 0, .int 0, .int (-1)])), (mm, .inr (7, MO rf 0 0 0 0 0)), (rf 2, .inl ((cf 0), 60, .inl (fun _ => 0))), (rf 14, .inl ((cf 1), 400, .inl (fun _ => 0))), (rf 15, .inl ((cf 2), 400, .inl (fun _ => 0))), (rf 16, .inl ((cf 3), 400, .inl (fun _ => 0))), (rf 17, .inl ((cf 4), 400, .inl (fun _ => 0))), (oo, .inl (cL, 1, .inr (.inl (fun _ => 0))))] H := hP
  have hD : va_D (fun q : Nat => s.heap.size ≤ q) [(u 0, .inl (cA, 60, .inl (fun _ => 0))), (u 1, .inr (2, [.ref (v 0), .ref (v 1), .ref (v 2), .ref (v 3), .ref (v 4), .int 0])), (u 2, .inr (1, [.ref (u 0), .ref (u 1), .int 0, .int 0, .int 0, .int (-1)])), (mm, .inr (7, MO rf 0 0 0 0 0)), (rf 2, .inl ((cf 0), 60, .inl (fun _ => 0))), (rf 14, .inl ((cf 1), 400, .inl (fun _ => 0))), (rf 15, .inl ((cf 2), 400, .inl (fun _ => 0))), (rf 16, .inl ((cf 3), 400, .inl (fun _ => 0))), (rf 17, .inl ((cf 4), 400, .inl (fun _ => 0))), (oo, .inl (cL, 1, .inr (.inl (fun _ => 0))))] := hD
  have hK : va_K (dC, dI) vwCl [(cA, .int), (cf 0, .int), (cf 1, .int), (cf 2, .int), (cf 3, .int), (cf 4, .int), (cL, .long)] s := hK
  refine lv_aload_n hx hb dL_law_475 rfl (lv_at hl 2 rfl) ?_
  refine lv_aload_n hx hb dL_law_476 rfl (lv_at hl 4 rfl) ?_
  refine lv_iload hx hb dL_law_477 (lv_at hl 0 rfl) ?_
  refine lv_iconst (v := 1) hx hb dL_law_479 (by decide) ?_
  refine lv_iadd hx hb dL_law_480 ?_
  rw [show (0 : Int32) + 1 = 1 by decide]
  refine va_sld hx hb hX hbl hbA hS (i := 1) (by rw [vp_in_iff]; decide) dL_law_481 ?_
  rw [hp]
  have hPc := hP.sub (ws' := [(mm, .inr (7, MO rf 0 0 0 0 0))]) [3] rfl
  have hDc := hD.sub (ws' := [(mm, .inr (7, MO rf 0 0 0 0 0))]) [3] (by decide) rfl
  have hKc := hK.sub (tys' := []) [] rfl
  have hFc := va_free (wc := [(mm, .inr (7, MO rf 0 0 0 0 0))]) hD hS hA [3] rfl
  refine va_calli (va_runV (As := [.int 1]) (rest := [.int 0]) ⟨hx, hb, hml, hown, hB⟩ (c_mused1 l dC dI mm rf H.size) (cwV 1 hB (bgV bg387 bg388 bg389 bg225 bg390) rfl rfl rfl (by decide +kernel) ⟨Nat.le_of_ble_eq_true rfl, Nat.le_of_ble_eq_true rfl⟩) ⟨fun a U g mk q => by obtain ⟨q0, q1, qP, qK, qD⟩ := q; exact ⟨q0, q1, qP, va_K.moved (u := U) (U := U.calling g mk a) (Vm.Alike.refl U.vm) qK, qD⟩, va_recv hKc hPc (ci := 7) (q0 := 0) rfl rfl, fun U hU hW => ⟨rfl, by rw [hU], by rw [hU]; exact hPc, va_K.moved hW.alike hKc, hDc.weaken (fun _ _ _ _ => trivial)⟩⟩ rfl rfl hl.1 rfl (lv_room (Nat.le_of_ble_eq_true rfl)) dL_law_482 ⟨Nat.le_of_ble_eq_true rfl, Nat.le_of_ble_eq_true rfl⟩) hS (fun q _ h => hFc q h) hFc (fun r9 u9 t9 H1 locs ht9 hvm hw hB1 hz1 hk1 hS => ?_)
  obtain ⟨fs_1, rfl⟩ : ∃ z, z = u9 := ⟨_, rfl⟩
  try dsimp only at hB1 hw
  obtain ⟨hP1, hK1, hD1⟩ := hB1
  rw [ht9] at hP1
  have hK1 := va_K.moved hvm.symm hK1
  obtain ⟨rfl, w_2⟩ := hw
  obtain ⟨hP, hD⟩ := va_join (wr := [(u 0, .inl (cA, 60, .inl (fun _ => 0))), (u 1, .inr (2, [.ref (v 0), .ref (v 1), .ref (v 2), .ref (v 3), .ref (v 4), .int 0])), (u 2, .inr (1, [.ref (u 0), .ref (u 1), .int 0, .int 0, .int 0, .int (-1)])), (rf 2, .inl ((cf 0), 60, .inl (fun _ => 0))), (rf 14, .inl ((cf 1), 400, .inl (fun _ => 0))), (rf 15, .inl ((cf 2), 400, .inl (fun _ => 0))), (rf 16, .inl ((cf 3), 400, .inl (fun _ => 0))), (rf 17, .inl ((cf 4), 400, .inl (fun _ => 0))), (oo, .inl (cL, 1, .inr (.inl (fun _ => 0))))]) (w1 := [(mm, .inr (7, fs_1))]) hP hD [3] [0, 1, 2, 4, 5, 6, 7, 8, 9] rfl rfl (by decide) (by decide) hk1 hFc hP1 hD1
  have hK := (hK.sub (tys' := [(cA, .int), (cf 0, .int), (cf 1, .int), (cf 2, .int), (cf 3, .int), (cf 4, .int), (cL, .long)]) [0, 1, 2, 3, 4, 5, 6] rfl).app hK1
  generalize H1 = H at hP hS ⊢
  have hP : va_P (dC, dI) vwCl [(u 0, .inl (cA, 60, .inl (fun _ => 0))), (u 1, .inr (2, [.ref (v 0), .ref (v 1), .ref (v 2), .ref (v 3), .ref (v 4), .int 0])), (u 2, .inr (1, [.ref (u 0), .ref (u 1), .int 0, .int 0, .int 0, .int (-1)])), (rf 2, .inl ((cf 0), 60, .inl (fun _ => 0))), (rf 14, .inl ((cf 1), 400, .inl (fun _ => 0))), (rf 15, .inl ((cf 2), 400, .inl (fun _ => 0))), (rf 16, .inl ((cf 3), 400, .inl (fun _ => 0))), (rf 17, .inl ((cf 4), 400, .inl (fun _ => 0))), (oo, .inl (cL, 1, .inr (.inl (fun _ => 0)))), (mm, .inr (7, fs_1))] H := hP
  have hD : va_D (fun q : Nat => s.heap.size ≤ q) [(u 0, .inl (cA, 60, .inl (fun _ => 0))), (u 1, .inr (2, [.ref (v 0), .ref (v 1), .ref (v 2), .ref (v 3), .ref (v 4), .int 0])), (u 2, .inr (1, [.ref (u 0), .ref (u 1), .int 0, .int 0, .int 0, .int (-1)])), (rf 2, .inl ((cf 0), 60, .inl (fun _ => 0))), (rf 14, .inl ((cf 1), 400, .inl (fun _ => 0))), (rf 15, .inl ((cf 2), 400, .inl (fun _ => 0))), (rf 16, .inl ((cf 3), 400, .inl (fun _ => 0))), (rf 17, .inl ((cf 4), 400, .inl (fun _ => 0))), (oo, .inl (cL, 1, .inr (.inl (fun _ => 0)))), (mm, .inr (7, fs_1))] := hD
  have hK : va_K (dC, dI) vwCl [(cA, .int), (cf 0, .int), (cf 1, .int), (cf 2, .int), (cf 3, .int), (cf 4, .int), (cL, .long)] s := hK
  refine lv_icmp_eq (tgt := 490) hx hb dL_law_485 (by decide) (fun _ => ?_) (fun c9 => absurd c9 (by decide))
  exact law_end C0 _ _ hS (by decide) (by decide) ls (lv_sub hl [4, 0] rfl)
set_option maxHeartbeats 4000000 in
set_option maxRecDepth 100000 in
theorem law_used2 {p : Program} {l : Launch} {e : Env} {s : State} {m : MethodId} {below : List Frame} {meth : Method} {c : Code} (hl9 : l.stackTraces = false) {b : Nat} {xs : Nat → Int32} (C0 : lw_At p s m meth c b 2 xs) (dC : Nat → ClassId) (dI : Nat → Nat → Nat) (xx mm oo : Nat) (u v w : Nat → Nat) (cA : ClassId) (rf : Nat → Nat) (cf : Nat → ClassId) (cL : ClassId) (hp : xs (1 : Int32).toNatClampNeg = 2) (H : Heap) (locs : List Loc) (hK : va_K (dC, dI) vwCl [(cA, .int), (cf 0, .int), (cf 1, .int), (cf 2, .int), (cf 3, .int), (cf 4, .int), (cL, .long)] s) (hP : va_P (dC, dI) vwCl [(xx, .inr (6, CO u 0 0 0)), (u 0, .inl (cA, 60, .inl (fun _ => 0))), (u 1, .inr (2, [.ref (v 0), .ref (v 1), .ref (v 2), .ref (v 3), .ref (v 4), .int 0])), (u 2, .inr (1, [.ref (u 0), .ref (u 1), .int 0, .int 0, .int 0, .int (-1)])), (u 4, .inr (0, [.ref (u 1), .ref (w 1), .ref (w 2), .ref (w 3), .ref (w 4), .ref (w 5), .ref (w 6), .ref (w 7), .int 0, .int 0, .int 0, .int 0, .int 0, .int 0, .int 0, .int 0])), (mm, .inr (7, MO rf 0 0 0 0 0)), (rf 2, .inl ((cf 0), 60, .inl (fun _ => 0))), (rf 14, .inl ((cf 1), 400, .inl (fun _ => 0))), (rf 15, .inl ((cf 2), 400, .inl (fun _ => 0))), (rf 16, .inl ((cf 3), 400, .inl (fun _ => 0))), (rf 17, .inl ((cf 4), 400, .inl (fun _ => 0))), (oo, .inl (cL, 1, .inr (.inl (fun _ => 0))))] H) (hD : va_D (fun q : Nat => s.heap.size ≤ q) [(xx, .inr (6, CO u 0 0 0)), (u 0, .inl (cA, 60, .inl (fun _ => 0))), (u 1, .inr (2, [.ref (v 0), .ref (v 1), .ref (v 2), .ref (v 3), .ref (v 4), .int 0])), (u 2, .inr (1, [.ref (u 0), .ref (u 1), .int 0, .int 0, .int 0, .int (-1)])), (u 4, .inr (0, [.ref (u 1), .ref (w 1), .ref (w 2), .ref (w 3), .ref (w 4), .ref (w 5), .ref (w 6), .ref (w 7), .int 0, .int 0, .int 0, .int 0, .int 0, .int 0, .int 0, .int 0])), (mm, .inr (7, MO rf 0 0 0 0 0)), (rf 2, .inl ((cf 0), 60, .inl (fun _ => 0))), (rf 14, .inl ((cf 1), 400, .inl (fun _ => 0))), (rf 15, .inl ((cf 2), 400, .inl (fun _ => 0))), (rf 16, .inl ((cf 3), 400, .inl (fun _ => 0))), (rf 17, .inl ((cf 4), 400, .inl (fun _ => 0))), (oo, .inl (cL, 1, .inr (.inl (fun _ => 0))))]) (hS : va_S (fun q : Nat => s.heap.size ≤ q) s.heap H locs) (ls : Array Slot) (hl : lv_has ls 7 [(4, .int 0), (3, .ref oo), (2, .ref mm), (1, .ref xx), (0, .ref b)]) : W p l e room_1 s m #[Value.ref b] below meth c H locs 71 29142 (lw_Z below #[Value.ref b] s) (F0 m 465 ls []) := by
  obtain ⟨hx, hb, hr, hml, hown, hts, hX, hbl, hlocks, hgv⟩ := id C0
  have hown : s.vm.findClass RL = some m.cls := hown
  have hB : ∀ w ∈ BG, w.before #[Value.ref b] s = true := fun w h => hts w (BG_tb w h)
  have hA : ∀ q : Nat, s.heap.size ≤ q → (fun q : Nat => s.heap.size ≤ q) q := fun _ h => h
  have hbA : ¬ (fun q : Nat => s.heap.size ≤ q) b := Nat.not_le.mpr hbl
  refine lv_aload_n hx hb dL_law_465 rfl (lv_at hl 3 rfl) ?_
  refine lv_aload_n hx hb dL_law_466 rfl (lv_at hl 4 rfl) ?_
  refine lv_iload hx hb dL_law_467 (lv_at hl 0 rfl) ?_
  refine lv_iconst (v := 1) hx hb dL_law_469 (by decide) ?_
  refine lv_iadd hx hb dL_law_470 ?_
  rw [show (0 : Int32) + 1 = 1 by decide]
  refine va_sld hx hb hX hbl hbA hS (i := 1) (by rw [vp_in_iff]; decide) dL_law_471 ?_
  rw [hp]
  have hPc := hP.sub (ws' := [(xx, .inr (6, CO u 0 0 0)), (u 4, .inr (0, [.ref (u 1), .ref (w 1), .ref (w 2), .ref (w 3), .ref (w 4), .ref (w 5), .ref (w 6), .ref (w 7), .int 0, .int 0, .int 0, .int 0, .int 0, .int 0, .int 0, .int 0]))]) [0, 4] rfl
  have hDc := hD.sub (ws' := [(xx, .inr (6, CO u 0 0 0)), (u 4, .inr (0, [.ref (u 1), .ref (w 1), .ref (w 2), .ref (w 3), .ref (w 4), .ref (w 5), .ref (w 6), .ref (w 7), .int 0, .int 0, .int 0, .int 0, .int 0, .int 0, .int 0, .int 0]))]) [0, 4] (by decide) rfl
  have hKc := hK.sub (tys' := []) [] rfl
  have hFc := va_free (wc := [(xx, .inr (6, CO u 0 0 0)), (u 4, .inr (0, [.ref (u 1), .ref (w 1), .ref (w 2), .ref (w 3), .ref (w 4), .ref (w 5), .ref (w 6), .ref (w 7), .int 0, .int 0, .int 0, .int 0, .int 0, .int 0, .int 0, .int 0]))]) hD hS hA [0, 4] rfl
  refine va_calli (va_runV (As := [.int 2]) (rest := []) ⟨hx, hb, hml, hown, hB⟩ (c_used2 l dC dI xx u w H.size) (cwV 1 hB (bgV bg383 bg384 bg385 bg89 bg386) rfl rfl rfl (by decide +kernel) ⟨Nat.le_of_ble_eq_true rfl, Nat.le_of_ble_eq_true rfl⟩) ⟨fun a U g mk q => by obtain ⟨q0, q1, qP, qK, qD⟩ := q; exact ⟨q0, q1, qP, va_K.moved (u := U) (U := U.calling g mk a) (Vm.Alike.refl U.vm) qK, qD⟩, va_recv hKc hPc (ci := 6) (q0 := 0) rfl rfl, fun U hU hW => ⟨rfl, by rw [hU], by rw [hU]; exact hPc, va_K.moved hW.alike hKc, hDc.weaken (fun _ _ _ _ => trivial)⟩⟩ rfl rfl hl.1 rfl (lv_room (Nat.le_of_ble_eq_true rfl)) dL_law_472 ⟨Nat.le_of_ble_eq_true rfl, Nat.le_of_ble_eq_true rfl⟩) hS (fun q _ h => hFc q h) hFc (fun r9 u9 t9 H1 locs ht9 hvm hw hB1 hz1 hk1 hS => ?_)
  try dsimp only at hB1 hw
  obtain ⟨hP1, hK1, hD1⟩ := hB1
  rw [ht9] at hP1
  have hK1 := va_K.moved hvm.symm hK1
  obtain rfl := hw
  obtain ⟨hP, hD⟩ := va_join (wr := [(u 0, .inl (cA, 60, .inl (fun _ => 0))), (u 1, .inr (2, [.ref (v 0), .ref (v 1), .ref (v 2), .ref (v 3), .ref (v 4), .int 0])), (u 2, .inr (1, [.ref (u 0), .ref (u 1), .int 0, .int 0, .int 0, .int (-1)])), (mm, .inr (7, MO rf 0 0 0 0 0)), (rf 2, .inl ((cf 0), 60, .inl (fun _ => 0))), (rf 14, .inl ((cf 1), 400, .inl (fun _ => 0))), (rf 15, .inl ((cf 2), 400, .inl (fun _ => 0))), (rf 16, .inl ((cf 3), 400, .inl (fun _ => 0))), (rf 17, .inl ((cf 4), 400, .inl (fun _ => 0))), (oo, .inl (cL, 1, .inr (.inl (fun _ => 0))))]) (w1 := []) hP hD [0, 4] [1, 2, 3, 5, 6, 7, 8, 9, 10, 11] rfl rfl (by decide) (by decide) hk1 hFc hP1 hD1
  have hK := (hK.sub (tys' := [(cA, .int), (cf 0, .int), (cf 1, .int), (cf 2, .int), (cf 3, .int), (cf 4, .int), (cL, .long)]) [0, 1, 2, 3, 4, 5, 6] rfl).app hK1
  generalize H1 = H at hP hS ⊢
  have hP : va_P (dC, dI) vwCl [(u 0, .inl (cA, 60, .inl (fun _ => 0))), (u 1, .inr (2, [.ref (v 0), .ref (v 1), .ref (v 2), .ref (v 3), .ref (v 4), .int 0])), (u 2, .inr (1, [.ref (u 0), .ref (u 1), .int 0, .int 0, .int 0, .int (-1)])), (mm, .inr (7, MO rf 0 0 0 0 0)), (rf 2, .inl ((cf 0), 60, .inl (fun _ => 0))), (rf 14, .inl ((cf 1), 400, .inl (fun _ => 0))), (rf 15, .inl ((cf 2), 400, .inl (fun _ => 0))), (rf 16, .inl ((cf 3), 400, .inl (fun _ => 0))), (rf 17, .inl ((cf 4), 400, .inl (fun _ => 0))), (oo, .inl (cL, 1, .inr (.inl (fun _ => 0))))] H := hP
  have hD : va_D (fun q : Nat => s.heap.size ≤ q) [(u 0, .inl (cA, 60, .inl (fun _ => 0))), (u 1, .inr (2, [.ref (v 0), .ref (v 1), .ref (v 2), .ref (v 3), .ref (v 4), .int 0])), (u 2, .inr (1, [.ref (u 0), .ref (u 1), .int 0, .int 0, .int 0, .int (-1)])), (mm, .inr (7, MO rf 0 0 0 0 0)), (rf 2, .inl ((cf 0), 60, .inl (fun _ => 0))), (rf 14, .inl ((cf 1), 400, .inl (fun _ => 0))), (rf 15, .inl ((cf 2), 400, .inl (fun _ => 0))), (rf 16, .inl ((cf 3), 400, .inl (fun _ => 0))), (rf 17, .inl ((cf 4), 400, .inl (fun _ => 0))), (oo, .inl (cL, 1, .inr (.inl (fun _ => 0))))] := hD
  have hK : va_K (dC, dI) vwCl [(cA, .int), (cf 0, .int), (cf 1, .int), (cf 2, .int), (cf 3, .int), (cf 4, .int), (cL, .long)] s := hK
  refine lv_aload_n hx hb dL_law_475 rfl (lv_at hl 2 rfl) ?_
  refine lv_aload_n hx hb dL_law_476 rfl (lv_at hl 4 rfl) ?_
  refine lv_iload hx hb dL_law_477 (lv_at hl 0 rfl) ?_
  refine lv_iconst (v := 1) hx hb dL_law_479 (by decide) ?_
  refine lv_iadd hx hb dL_law_480 ?_
  rw [show (0 : Int32) + 1 = 1 by decide]
  refine va_sld hx hb hX hbl hbA hS (i := 1) (by rw [vp_in_iff]; decide) dL_law_481 ?_
  rw [hp]
  have hPc := hP.sub (ws' := [(mm, .inr (7, MO rf 0 0 0 0 0))]) [3] rfl
  have hDc := hD.sub (ws' := [(mm, .inr (7, MO rf 0 0 0 0 0))]) [3] (by decide) rfl
  have hKc := hK.sub (tys' := []) [] rfl
  have hFc := va_free (wc := [(mm, .inr (7, MO rf 0 0 0 0 0))]) hD hS hA [3] rfl
  refine va_calli (va_runV (As := [.int 2]) (rest := [.int 0]) ⟨hx, hb, hml, hown, hB⟩ (c_mused2 l dC dI mm rf H.size) (cwV 1 hB (bgV bg387 bg388 bg389 bg225 bg390) rfl rfl rfl (by decide +kernel) ⟨Nat.le_of_ble_eq_true rfl, Nat.le_of_ble_eq_true rfl⟩) ⟨fun a U g mk q => by obtain ⟨q0, q1, qP, qK, qD⟩ := q; exact ⟨q0, q1, qP, va_K.moved (u := U) (U := U.calling g mk a) (Vm.Alike.refl U.vm) qK, qD⟩, va_recv hKc hPc (ci := 7) (q0 := 0) rfl rfl, fun U hU hW => ⟨rfl, by rw [hU], by rw [hU]; exact hPc, va_K.moved hW.alike hKc, hDc.weaken (fun _ _ _ _ => trivial)⟩⟩ rfl rfl hl.1 rfl (lv_room (Nat.le_of_ble_eq_true rfl)) dL_law_482 ⟨Nat.le_of_ble_eq_true rfl, Nat.le_of_ble_eq_true rfl⟩) hS (fun q _ h => hFc q h) hFc (fun r9 u9 t9 H1 locs ht9 hvm hw hB1 hz1 hk1 hS => ?_)
  obtain ⟨fs_1, rfl⟩ : ∃ z, z = u9 := ⟨_, rfl⟩
  try dsimp only at hB1 hw
  obtain ⟨hP1, hK1, hD1⟩ := hB1
  rw [ht9] at hP1
  have hK1 := va_K.moved hvm.symm hK1
  obtain ⟨rfl, w_2⟩ := hw
  obtain ⟨hP, hD⟩ := va_join (wr := [(u 0, .inl (cA, 60, .inl (fun _ => 0))), (u 1, .inr (2, [.ref (v 0), .ref (v 1), .ref (v 2), .ref (v 3), .ref (v 4), .int 0])), (u 2, .inr (1, [.ref (u 0), .ref (u 1), .int 0, .int 0, .int 0, .int (-1)])), (rf 2, .inl ((cf 0), 60, .inl (fun _ => 0))), (rf 14, .inl ((cf 1), 400, .inl (fun _ => 0))), (rf 15, .inl ((cf 2), 400, .inl (fun _ => 0))), (rf 16, .inl ((cf 3), 400, .inl (fun _ => 0))), (rf 17, .inl ((cf 4), 400, .inl (fun _ => 0))), (oo, .inl (cL, 1, .inr (.inl (fun _ => 0))))]) (w1 := [(mm, .inr (7, fs_1))]) hP hD [3] [0, 1, 2, 4, 5, 6, 7, 8, 9] rfl rfl (by decide) (by decide) hk1 hFc hP1 hD1
  have hK := (hK.sub (tys' := [(cA, .int), (cf 0, .int), (cf 1, .int), (cf 2, .int), (cf 3, .int), (cf 4, .int), (cL, .long)]) [0, 1, 2, 3, 4, 5, 6] rfl).app hK1
  generalize H1 = H at hP hS ⊢
  have hP : va_P (dC, dI) vwCl [(u 0, .inl (cA, 60, .inl (fun _ => 0))), (u 1, .inr (2, [.ref (v 0), .ref (v 1), .ref (v 2), .ref (v 3), .ref (v 4), .int 0])), (u 2, .inr (1, [.ref (u 0), .ref (u 1), .int 0, .int 0, .int 0, .int (-1)])), (rf 2, .inl ((cf 0), 60, .inl (fun _ => 0))), (rf 14, .inl ((cf 1), 400, .inl (fun _ => 0))), (rf 15, .inl ((cf 2), 400, .inl (fun _ => 0))), (rf 16, .inl ((cf 3), 400, .inl (fun _ => 0))), (rf 17, .inl ((cf 4), 400, .inl (fun _ => 0))), (oo, .inl (cL, 1, .inr (.inl (fun _ => 0)))), (mm, .inr (7, fs_1))] H := hP
  have hD : va_D (fun q : Nat => s.heap.size ≤ q) [(u 0, .inl (cA, 60, .inl (fun _ => 0))), (u 1, .inr (2, [.ref (v 0), .ref (v 1), .ref (v 2), .ref (v 3), .ref (v 4), .int 0])), (u 2, .inr (1, [.ref (u 0), .ref (u 1), .int 0, .int 0, .int 0, .int (-1)])), (rf 2, .inl ((cf 0), 60, .inl (fun _ => 0))), (rf 14, .inl ((cf 1), 400, .inl (fun _ => 0))), (rf 15, .inl ((cf 2), 400, .inl (fun _ => 0))), (rf 16, .inl ((cf 3), 400, .inl (fun _ => 0))), (rf 17, .inl ((cf 4), 400, .inl (fun _ => 0))), (oo, .inl (cL, 1, .inr (.inl (fun _ => 0)))), (mm, .inr (7, fs_1))] := hD
  have hK : va_K (dC, dI) vwCl [(cA, .int), (cf 0, .int), (cf 1, .int), (cf 2, .int), (cf 3, .int), (cf 4, .int), (cL, .long)] s := hK
  refine lv_icmp_eq (tgt := 490) hx hb dL_law_485 (by decide) (fun _ => ?_) (fun c9 => absurd c9 (by decide))
  exact law_end C0 _ _ hS (by decide) (by decide) ls (lv_sub hl [4, 0] rfl)
set_option maxHeartbeats 4000000 in
set_option maxRecDepth 100000 in
theorem law_usedN {p : Program} {l : Launch} {e : Env} {s : State} {m : MethodId} {below : List Frame} {meth : Method} {c : Code} (hl9 : l.stackTraces = false) {b : Nat} {xs : Nat → Int32} (C0 : lw_At p s m meth c b 2 xs) (dC : Nat → ClassId) (dI : Nat → Nat → Nat) (xx mm oo : Nat) (u v w : Nat → Nat) (cA : ClassId) (rf : Nat → Nat) (cf : Nat → ClassId) (cL : ClassId) (t : Int32) (hp : xs (1 : Int32).toNatClampNeg = t) (ho : t.toInt < 0 ∨ 2 < t.toInt) (H : Heap) (locs : List Loc) (hK : va_K (dC, dI) vwCl [(cA, .int), (cf 0, .int), (cf 1, .int), (cf 2, .int), (cf 3, .int), (cf 4, .int), (cL, .long)] s) (hP : va_P (dC, dI) vwCl [(xx, .inr (6, CO u 0 0 0)), (u 0, .inl (cA, 60, .inl (fun _ => 0))), (u 1, .inr (2, [.ref (v 0), .ref (v 1), .ref (v 2), .ref (v 3), .ref (v 4), .int 0])), (u 2, .inr (1, [.ref (u 0), .ref (u 1), .int 0, .int 0, .int 0, .int (-1)])), (u 4, .inr (0, [.ref (u 1), .ref (w 1), .ref (w 2), .ref (w 3), .ref (w 4), .ref (w 5), .ref (w 6), .ref (w 7), .int 0, .int 0, .int 0, .int 0, .int 0, .int 0, .int 0, .int 0])), (mm, .inr (7, MO rf 0 0 0 0 0)), (rf 2, .inl ((cf 0), 60, .inl (fun _ => 0))), (rf 14, .inl ((cf 1), 400, .inl (fun _ => 0))), (rf 15, .inl ((cf 2), 400, .inl (fun _ => 0))), (rf 16, .inl ((cf 3), 400, .inl (fun _ => 0))), (rf 17, .inl ((cf 4), 400, .inl (fun _ => 0))), (oo, .inl (cL, 1, .inr (.inl (fun _ => 0))))] H) (hD : va_D (fun q : Nat => s.heap.size ≤ q) [(xx, .inr (6, CO u 0 0 0)), (u 0, .inl (cA, 60, .inl (fun _ => 0))), (u 1, .inr (2, [.ref (v 0), .ref (v 1), .ref (v 2), .ref (v 3), .ref (v 4), .int 0])), (u 2, .inr (1, [.ref (u 0), .ref (u 1), .int 0, .int 0, .int 0, .int (-1)])), (u 4, .inr (0, [.ref (u 1), .ref (w 1), .ref (w 2), .ref (w 3), .ref (w 4), .ref (w 5), .ref (w 6), .ref (w 7), .int 0, .int 0, .int 0, .int 0, .int 0, .int 0, .int 0, .int 0])), (mm, .inr (7, MO rf 0 0 0 0 0)), (rf 2, .inl ((cf 0), 60, .inl (fun _ => 0))), (rf 14, .inl ((cf 1), 400, .inl (fun _ => 0))), (rf 15, .inl ((cf 2), 400, .inl (fun _ => 0))), (rf 16, .inl ((cf 3), 400, .inl (fun _ => 0))), (rf 17, .inl ((cf 4), 400, .inl (fun _ => 0))), (oo, .inl (cL, 1, .inr (.inl (fun _ => 0))))]) (hS : va_S (fun q : Nat => s.heap.size ≤ q) s.heap H locs) (ls : Array Slot) (hl : lv_has ls 7 [(4, .int 0), (3, .ref oo), (2, .ref mm), (1, .ref xx), (0, .ref b)]) : W p l e room_1 s m #[Value.ref b] below meth c H locs 71 29142 (lw_Z below #[Value.ref b] s) (F0 m 465 ls []) := by
  obtain ⟨hx, hb, hr, hml, hown, hts, hX, hbl, hlocks, hgv⟩ := id C0
  have hown : s.vm.findClass RL = some m.cls := hown
  have hB : ∀ w ∈ BG, w.before #[Value.ref b] s = true := fun w h => hts w (BG_tb w h)
  have hA : ∀ q : Nat, s.heap.size ≤ q → (fun q : Nat => s.heap.size ≤ q) q := fun _ h => h
  have hbA : ¬ (fun q : Nat => s.heap.size ≤ q) b := Nat.not_le.mpr hbl
  refine lv_aload_n hx hb dL_law_465 rfl (lv_at hl 3 rfl) ?_
  refine lv_aload_n hx hb dL_law_466 rfl (lv_at hl 4 rfl) ?_
  refine lv_iload hx hb dL_law_467 (lv_at hl 0 rfl) ?_
  refine lv_iconst (v := 1) hx hb dL_law_469 (by decide) ?_
  refine lv_iadd hx hb dL_law_470 ?_
  rw [show (0 : Int32) + 1 = 1 by decide]
  refine va_sld hx hb hX hbl hbA hS (i := 1) (by rw [vp_in_iff]; decide) dL_law_471 ?_
  rw [hp]
  have hPc := hP.sub (ws' := [(xx, .inr (6, CO u 0 0 0)), (u 4, .inr (0, [.ref (u 1), .ref (w 1), .ref (w 2), .ref (w 3), .ref (w 4), .ref (w 5), .ref (w 6), .ref (w 7), .int 0, .int 0, .int 0, .int 0, .int 0, .int 0, .int 0, .int 0]))]) [0, 4] rfl
  have hDc := hD.sub (ws' := [(xx, .inr (6, CO u 0 0 0)), (u 4, .inr (0, [.ref (u 1), .ref (w 1), .ref (w 2), .ref (w 3), .ref (w 4), .ref (w 5), .ref (w 6), .ref (w 7), .int 0, .int 0, .int 0, .int 0, .int 0, .int 0, .int 0, .int 0]))]) [0, 4] (by decide) rfl
  have hKc := hK.sub (tys' := []) [] rfl
  have hFc := va_free (wc := [(xx, .inr (6, CO u 0 0 0)), (u 4, .inr (0, [.ref (u 1), .ref (w 1), .ref (w 2), .ref (w 3), .ref (w 4), .ref (w 5), .ref (w 6), .ref (w 7), .int 0, .int 0, .int 0, .int 0, .int 0, .int 0, .int 0, .int 0]))]) hD hS hA [0, 4] rfl
  refine va_calli (va_runV (As := [.int t]) (rest := []) ⟨hx, hb, hml, hown, hB⟩ (c_usedN l dC dI xx u w t H.size ho) (cwV 1 hB (bgV bg383 bg384 bg385 bg89 bg386) rfl rfl rfl (by decide +kernel) ⟨Nat.le_of_ble_eq_true rfl, Nat.le_of_ble_eq_true rfl⟩) ⟨fun a U g mk q => by obtain ⟨q0, q1, qP, qK, qD⟩ := q; exact ⟨q0, q1, qP, va_K.moved (u := U) (U := U.calling g mk a) (Vm.Alike.refl U.vm) qK, qD⟩, va_recv hKc hPc (ci := 6) (q0 := 0) rfl rfl, fun U hU hW => ⟨rfl, by rw [hU], by rw [hU]; exact hPc, va_K.moved hW.alike hKc, hDc.weaken (fun _ _ _ _ => trivial)⟩⟩ rfl rfl hl.1 rfl (lv_room (Nat.le_of_ble_eq_true rfl)) dL_law_472 ⟨Nat.le_of_ble_eq_true rfl, Nat.le_of_ble_eq_true rfl⟩) hS (fun q _ h => hFc q h) hFc (fun r9 u9 t9 H1 locs ht9 hvm hw hB1 hz1 hk1 hS => ?_)
  try dsimp only at hB1 hw
  obtain ⟨hP1, hK1, hD1⟩ := hB1
  rw [ht9] at hP1
  have hK1 := va_K.moved hvm.symm hK1
  obtain rfl := hw
  obtain ⟨hP, hD⟩ := va_join (wr := [(u 0, .inl (cA, 60, .inl (fun _ => 0))), (u 1, .inr (2, [.ref (v 0), .ref (v 1), .ref (v 2), .ref (v 3), .ref (v 4), .int 0])), (u 2, .inr (1, [.ref (u 0), .ref (u 1), .int 0, .int 0, .int 0, .int (-1)])), (mm, .inr (7, MO rf 0 0 0 0 0)), (rf 2, .inl ((cf 0), 60, .inl (fun _ => 0))), (rf 14, .inl ((cf 1), 400, .inl (fun _ => 0))), (rf 15, .inl ((cf 2), 400, .inl (fun _ => 0))), (rf 16, .inl ((cf 3), 400, .inl (fun _ => 0))), (rf 17, .inl ((cf 4), 400, .inl (fun _ => 0))), (oo, .inl (cL, 1, .inr (.inl (fun _ => 0))))]) (w1 := []) hP hD [0, 4] [1, 2, 3, 5, 6, 7, 8, 9, 10, 11] rfl rfl (by decide) (by decide) hk1 hFc hP1 hD1
  have hK := (hK.sub (tys' := [(cA, .int), (cf 0, .int), (cf 1, .int), (cf 2, .int), (cf 3, .int), (cf 4, .int), (cL, .long)]) [0, 1, 2, 3, 4, 5, 6] rfl).app hK1
  generalize H1 = H at hP hS ⊢
  have hP : va_P (dC, dI) vwCl [(u 0, .inl (cA, 60, .inl (fun _ => 0))), (u 1, .inr (2, [.ref (v 0), .ref (v 1), .ref (v 2), .ref (v 3), .ref (v 4), .int 0])), (u 2, .inr (1, [.ref (u 0), .ref (u 1), .int 0, .int 0, .int 0, .int (-1)])), (mm, .inr (7, MO rf 0 0 0 0 0)), (rf 2, .inl ((cf 0), 60, .inl (fun _ => 0))), (rf 14, .inl ((cf 1), 400, .inl (fun _ => 0))), (rf 15, .inl ((cf 2), 400, .inl (fun _ => 0))), (rf 16, .inl ((cf 3), 400, .inl (fun _ => 0))), (rf 17, .inl ((cf 4), 400, .inl (fun _ => 0))), (oo, .inl (cL, 1, .inr (.inl (fun _ => 0))))] H := hP
  have hD : va_D (fun q : Nat => s.heap.size ≤ q) [(u 0, .inl (cA, 60, .inl (fun _ => 0))), (u 1, .inr (2, [.ref (v 0), .ref (v 1), .ref (v 2), .ref (v 3), .ref (v 4), .int 0])), (u 2, .inr (1, [.ref (u 0), .ref (u 1), .int 0, .int 0, .int 0, .int (-1)])), (mm, .inr (7, MO rf 0 0 0 0 0)), (rf 2, .inl ((cf 0), 60, .inl (fun _ => 0))), (rf 14, .inl ((cf 1), 400, .inl (fun _ => 0))), (rf 15, .inl ((cf 2), 400, .inl (fun _ => 0))), (rf 16, .inl ((cf 3), 400, .inl (fun _ => 0))), (rf 17, .inl ((cf 4), 400, .inl (fun _ => 0))), (oo, .inl (cL, 1, .inr (.inl (fun _ => 0))))] := hD
  have hK : va_K (dC, dI) vwCl [(cA, .int), (cf 0, .int), (cf 1, .int), (cf 2, .int), (cf 3, .int), (cf 4, .int), (cL, .long)] s := hK
  refine lv_aload_n hx hb dL_law_475 rfl (lv_at hl 2 rfl) ?_
  refine lv_aload_n hx hb dL_law_476 rfl (lv_at hl 4 rfl) ?_
  refine lv_iload hx hb dL_law_477 (lv_at hl 0 rfl) ?_
  refine lv_iconst (v := 1) hx hb dL_law_479 (by decide) ?_
  refine lv_iadd hx hb dL_law_480 ?_
  rw [show (0 : Int32) + 1 = 1 by decide]
  refine va_sld hx hb hX hbl hbA hS (i := 1) (by rw [vp_in_iff]; decide) dL_law_481 ?_
  rw [hp]
  have hPc := hP.sub (ws' := [(mm, .inr (7, MO rf 0 0 0 0 0))]) [3] rfl
  have hDc := hD.sub (ws' := [(mm, .inr (7, MO rf 0 0 0 0 0))]) [3] (by decide) rfl
  have hKc := hK.sub (tys' := []) [] rfl
  have hFc := va_free (wc := [(mm, .inr (7, MO rf 0 0 0 0 0))]) hD hS hA [3] rfl
  refine va_calli (va_runV (As := [.int t]) (rest := [.int (-1)]) ⟨hx, hb, hml, hown, hB⟩ (c_musedN l dC dI mm rf t H.size ho) (cwV 1 hB (bgV bg387 bg388 bg389 bg225 bg390) rfl rfl rfl (by decide +kernel) ⟨Nat.le_of_ble_eq_true rfl, Nat.le_of_ble_eq_true rfl⟩) ⟨fun a U g mk q => by obtain ⟨q0, q1, qP, qK, qD⟩ := q; exact ⟨q0, q1, qP, va_K.moved (u := U) (U := U.calling g mk a) (Vm.Alike.refl U.vm) qK, qD⟩, va_recv hKc hPc (ci := 7) (q0 := 0) rfl rfl, fun U hU hW => ⟨rfl, by rw [hU], by rw [hU]; exact hPc, va_K.moved hW.alike hKc, hDc.weaken (fun _ _ _ _ => trivial)⟩⟩ rfl rfl hl.1 rfl (lv_room (Nat.le_of_ble_eq_true rfl)) dL_law_482 ⟨Nat.le_of_ble_eq_true rfl, Nat.le_of_ble_eq_true rfl⟩) hS (fun q _ h => hFc q h) hFc (fun r9 u9 t9 H1 locs ht9 hvm hw hB1 hz1 hk1 hS => ?_)
  obtain ⟨fs_1, rfl⟩ : ∃ z, z = u9 := ⟨_, rfl⟩
  try dsimp only at hB1 hw
  obtain ⟨hP1, hK1, hD1⟩ := hB1
  rw [ht9] at hP1
  have hK1 := va_K.moved hvm.symm hK1
  obtain ⟨rfl, w_2⟩ := hw
  obtain ⟨hP, hD⟩ := va_join (wr := [(u 0, .inl (cA, 60, .inl (fun _ => 0))), (u 1, .inr (2, [.ref (v 0), .ref (v 1), .ref (v 2), .ref (v 3), .ref (v 4), .int 0])), (u 2, .inr (1, [.ref (u 0), .ref (u 1), .int 0, .int 0, .int 0, .int (-1)])), (rf 2, .inl ((cf 0), 60, .inl (fun _ => 0))), (rf 14, .inl ((cf 1), 400, .inl (fun _ => 0))), (rf 15, .inl ((cf 2), 400, .inl (fun _ => 0))), (rf 16, .inl ((cf 3), 400, .inl (fun _ => 0))), (rf 17, .inl ((cf 4), 400, .inl (fun _ => 0))), (oo, .inl (cL, 1, .inr (.inl (fun _ => 0))))]) (w1 := [(mm, .inr (7, fs_1))]) hP hD [3] [0, 1, 2, 4, 5, 6, 7, 8, 9] rfl rfl (by decide) (by decide) hk1 hFc hP1 hD1
  have hK := (hK.sub (tys' := [(cA, .int), (cf 0, .int), (cf 1, .int), (cf 2, .int), (cf 3, .int), (cf 4, .int), (cL, .long)]) [0, 1, 2, 3, 4, 5, 6] rfl).app hK1
  generalize H1 = H at hP hS ⊢
  have hP : va_P (dC, dI) vwCl [(u 0, .inl (cA, 60, .inl (fun _ => 0))), (u 1, .inr (2, [.ref (v 0), .ref (v 1), .ref (v 2), .ref (v 3), .ref (v 4), .int 0])), (u 2, .inr (1, [.ref (u 0), .ref (u 1), .int 0, .int 0, .int 0, .int (-1)])), (rf 2, .inl ((cf 0), 60, .inl (fun _ => 0))), (rf 14, .inl ((cf 1), 400, .inl (fun _ => 0))), (rf 15, .inl ((cf 2), 400, .inl (fun _ => 0))), (rf 16, .inl ((cf 3), 400, .inl (fun _ => 0))), (rf 17, .inl ((cf 4), 400, .inl (fun _ => 0))), (oo, .inl (cL, 1, .inr (.inl (fun _ => 0)))), (mm, .inr (7, fs_1))] H := hP
  have hD : va_D (fun q : Nat => s.heap.size ≤ q) [(u 0, .inl (cA, 60, .inl (fun _ => 0))), (u 1, .inr (2, [.ref (v 0), .ref (v 1), .ref (v 2), .ref (v 3), .ref (v 4), .int 0])), (u 2, .inr (1, [.ref (u 0), .ref (u 1), .int 0, .int 0, .int 0, .int (-1)])), (rf 2, .inl ((cf 0), 60, .inl (fun _ => 0))), (rf 14, .inl ((cf 1), 400, .inl (fun _ => 0))), (rf 15, .inl ((cf 2), 400, .inl (fun _ => 0))), (rf 16, .inl ((cf 3), 400, .inl (fun _ => 0))), (rf 17, .inl ((cf 4), 400, .inl (fun _ => 0))), (oo, .inl (cL, 1, .inr (.inl (fun _ => 0)))), (mm, .inr (7, fs_1))] := hD
  have hK : va_K (dC, dI) vwCl [(cA, .int), (cf 0, .int), (cf 1, .int), (cf 2, .int), (cf 3, .int), (cf 4, .int), (cL, .long)] s := hK
  refine lv_icmp_eq (tgt := 490) hx hb dL_law_485 (by decide) (fun _ => ?_) (fun c9 => absurd c9 (by decide))
  exact law_end C0 _ _ hS (by decide) (by decide) ls (lv_sub hl [4, 0] rfl)
