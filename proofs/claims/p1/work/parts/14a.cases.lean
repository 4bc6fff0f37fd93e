set_option maxHeartbeats 4000000 in
set_option maxRecDepth 100000 in
theorem law_token_y {p : Program} {l : Launch} {e : Env} {s : State} {m : MethodId} {below : List Frame} {meth : Method} {c : Code} (hl9 : l.stackTraces = false) {b : Nat} {xs : Nat → Int32} (C0 : lw_At p s m meth c b 2 xs) (dC : Nat → ClassId) (dI : Nat → Nat → Nat) (xx mm oo : Nat) (u v w : Nat → Nat) (cA : ClassId) (rf : Nat → Nat) (cf : Nat → ClassId) (cL : ClassId) (t : Int32) (hp : xs (1 : Int32).toNatClampNeg = t) (ht : tk t) (H : Heap) (locs : List Loc) (hK : va_K (dC, dI) vwCl [(cA, .int), (cf 0, .int), (cf 1, .int), (cf 2, .int), (cf 3, .int), (cf 4, .int), (cL, .long)] s) (hP : va_P (dC, dI) vwCl [(xx, .inr (6, CO u 0 0 0)), (u 0, .inl (cA, 60, .inl (fun _ => 0))), (u 1, .inr (2, [.ref (v 0), .ref (v 1), .ref (v 2), .ref (v 3), .ref (v 4), .int 0])), (u 2, .inr (1, [.ref (u 0), .ref (u 1), .int 0, .int 0, .int 0, .int (-1)])), (u 4, .inr (0, [.ref (u 1), .ref (w 1), .ref (w 2), .ref (w 3), .ref (w 4), .ref (w 5), .ref (w 6), .ref (w 7), .int 0, .int 0, .int 0, .int 0, .int 0, .int 0, .int 0, .int 0])), (mm, .inr (7, MO rf 0 0 0 0 0)), (rf 2, .inl ((cf 0), 60, .inl (fun _ => 0))), (rf 14, .inl ((cf 1), 400, .inl (fun _ => 0))), (rf 15, .inl ((cf 2), 400, .inl (fun _ => 0))), (rf 16, .inl ((cf 3), 400, .inl (fun _ => 0))), (rf 17, .inl ((cf 4), 400, .inl (fun _ => 0))), (oo, .inl (cL, 1, .inr (.inl (fun _ => 0))))] H) (hD : va_D (fun q : Nat => s.heap.size ≤ q) [(xx, .inr (6, CO u 0 0 0)), (u 0, .inl (cA, 60, .inl (fun _ => 0))), (u 1, .inr (2, [.ref (v 0), .ref (v 1), .ref (v 2), .ref (v 3), .ref (v 4), .int 0])), (u 2, .inr (1, [.ref (u 0), .ref (u 1), .int 0, .int 0, .int 0, .int (-1)])), (u 4, .inr (0, [.ref (u 1), .ref (w 1), .ref (w 2), .ref (w 3), .ref (w 4), .ref (w 5), .ref (w 6), .ref (w 7), .int 0, .int 0, .int 0, .int 0, .int 0, .int 0, .int 0, .int 0])), (mm, .inr (7, MO rf 0 0 0 0 0)), (rf 2, .inl ((cf 0), 60, .inl (fun _ => 0))), (rf 14, .inl ((cf 1), 400, .inl (fun _ => 0))), (rf 15, .inl ((cf 2), 400, .inl (fun _ => 0))), (rf 16, .inl ((cf 3), 400, .inl (fun _ => 0))), (rf 17, .inl ((cf 4), 400, .inl (fun _ => 0))), (oo, .inl (cL, 1, .inr (.inl (fun _ => 0))))]) (hS : va_S (fun q : Nat => s.heap.size ≤ q) s.heap H locs) (ls : Array Slot) (hl : lv_has ls 7 [(4, .int 0), (3, .ref oo), (2, .ref mm), (1, .ref xx), (0, .ref b)]) : W p l e room_1 s m #[Value.ref b] below meth c H locs 71 29142 (lw_Z below #[Value.ref b] s) (F0 m 96 ls []) := by
  obtain ⟨hx, hb, hr, hml, hown, hts, hX, hbl, hlocks, hgv⟩ := id C0
  have hown : s.vm.findClass RL = some m.cls := hown
  have hB : ∀ w ∈ BG, w.before #[Value.ref b] s = true := fun w h => hts w (BG_tb w h)
  have hA : ∀ q : Nat, s.heap.size ≤ q → (fun q : Nat => s.heap.size ≤ q) q := fun _ h => h
  have hbA : ¬ (fun q : Nat => s.heap.size ≤ q) b := Nat.not_le.mpr hbl
  refine lv_aload_n hx hb dL_law_96 rfl (lv_at hl 3 rfl) ?_
  refine lv_aload_n hx hb dL_law_97 rfl (lv_at hl 4 rfl) ?_
  refine lv_iload hx hb dL_law_98 (lv_at hl 0 rfl) ?_
  refine lv_iconst (v := 1) hx hb dL_law_100 (by decide) ?_
  refine lv_iadd hx hb dL_law_101 ?_
  rw [show (0 : Int32) + 1 = 1 by decide]
  refine va_sld hx hb hX hbl hbA hS (i := 1) (by rw [vp_in_iff]; decide) dL_law_102 ?_
  rw [hp]
  refine lv_aload_n hx hb dL_law_103 rfl (lv_at hl 1 rfl) ?_
  have hPc := hP.sub (ws' := [(xx, .inr (6, CO u 0 0 0)), (u 0, .inl (cA, 60, .inl (fun _ => 0))), (oo, .inl (cL, 1, .inr (.inl (fun _ => 0))))]) [0, 1, 11] rfl
  have hDc := hD.sub (ws' := [(xx, .inr (6, CO u 0 0 0)), (u 0, .inl (cA, 60, .inl (fun _ => 0))), (oo, .inl (cL, 1, .inr (.inl (fun _ => 0))))]) [0, 1, 11] (by decide) rfl
  have hKc := hK.sub (tys' := [(cA, .int), (cL, .long)]) [0, 6] rfl
  have hFc := va_free (wc := [(xx, .inr (6, CO u 0 0 0)), (u 0, .inl (cA, 60, .inl (fun _ => 0))), (oo, .inl (cL, 1, .inr (.inl (fun _ => 0))))]) hD hS hA [0, 1, 11] rfl
  refine va_calli (vx_runSW (As := [.ref xx, .int t, .ref oo]) (rest := []) ⟨hx, hb, hml, hown, hB⟩ (cl_token_y l dC dI xx u cA t oo cL H.size ht) (vx_cwSW 3 hB (bgW bg305 bg306 bg395 bg307) rfl rfl rfl (by decide +kernel) ⟨Nat.le_of_ble_eq_true rfl, Nat.le_of_ble_eq_true rfl⟩) ⟨fun a U g mk q => by obtain ⟨q0, q1, qP, qK, qD⟩ := q; exact ⟨q0, q1, qP, va_K.moved (u := U) (U := U.calling g mk a) (Vm.Alike.refl U.vm) qK, qD⟩, fun U hU hW => ⟨rfl, by rw [hU], by rw [hU]; exact hPc, va_K.moved hW.alike hKc, hDc.weaken (fun _ _ _ _ => trivial)⟩⟩ rfl rfl hl.1 rfl (lv_room (Nat.le_of_ble_eq_true rfl)) dL_law_104 ⟨Nat.le_of_ble_eq_true rfl, Nat.le_of_ble_eq_true rfl⟩) hS (fun q _ h => hFc q h) hFc (fun r9 u9 t9 H1 locs ht9 hvm hw hB1 hz1 hk1 hS => ?_)
  obtain ⟨g_1, rfl⟩ : ∃ z, z = u9 := ⟨_, rfl⟩
  try dsimp only at hB1 hw
  obtain ⟨hP1, hK1, hD1⟩ := hB1
  rw [ht9] at hP1
  have hK1 := va_K.moved hvm.symm hK1
  obtain ⟨rfl, w_2⟩ := hw
  obtain ⟨hP, hD⟩ := va_join (wr := [(u 1, .inr (2, [.ref (v 0), .ref (v 1), .ref (v 2), .ref (v 3), .ref (v 4), .int 0])), (u 2, .inr (1, [.ref (u 0), .ref (u 1), .int 0, .int 0, .int 0, .int (-1)])), (u 4, .inr (0, [.ref (u 1), .ref (w 1), .ref (w 2), .ref (w 3), .ref (w 4), .ref (w 5), .ref (w 6), .ref (w 7), .int 0, .int 0, .int 0, .int 0, .int 0, .int 0, .int 0, .int 0])), (mm, .inr (7, MO rf 0 0 0 0 0)), (rf 2, .inl ((cf 0), 60, .inl (fun _ => 0))), (rf 14, .inl ((cf 1), 400, .inl (fun _ => 0))), (rf 15, .inl ((cf 2), 400, .inl (fun _ => 0))), (rf 16, .inl ((cf 3), 400, .inl (fun _ => 0))), (rf 17, .inl ((cf 4), 400, .inl (fun _ => 0)))]) (w1 := [(oo, .inl (cL, 1, .inr (.inl g_1)))]) hP hD [0, 1, 11] [2, 3, 4, 5, 6, 7, 8, 9, 10] rfl rfl (by decide) (by decide) hk1 hFc hP1 hD1
  have hK := (hK.sub (tys' := [(cf 0, .int), (cf 1, .int), (cf 2, .int), (cf 3, .int), (cf 4, .int)]) [1, 2, 3, 4, 5] rfl).app hK1
  generalize H1 = H at hP hS ⊢
  have hP : va_P (dC, dI) vwCl [(u 1, .inr (2, [.ref (v 0), .ref (v 1), .ref (v 2), .ref (v 3), .ref (v 4), .int 0])), (u 2, .inr (1, [.ref (u 0), .ref (u 1), .int 0, .int 0, .int 0, .int (-1)])), (u 4, .inr (0, [.ref (u 1), .ref (w 1), .ref (w 2), .ref (w 3), .ref (w 4), .ref (w 5), .ref (w 6), .ref (w 7), .int 0, .int 0, .int 0, .int 0, .int 0, .int 0, .int 0, .int 0])), (mm, .inr (7, MO rf 0 0 0 0 0)), (rf 2, .inl ((cf 0), 60, .inl (fun _ => 0))), (rf 14, .inl ((cf 1), 400, .inl (fun _ => 0))), (rf 15, .inl ((cf 2), 400, .inl (fun _ => 0))), (rf 16, .inl ((cf 3), 400, .inl (fun _ => 0))), (rf 17, .inl ((cf 4), 400, .inl (fun _ => 0))), (oo, .inl (cL, 1, .inr (.inl g_1)))] H := hP
  have hD : va_D (fun q : Nat => s.heap.size ≤ q) [(u 1, .inr (2, [.ref (v 0), .ref (v 1), .ref (v 2), .ref (v 3), .ref (v 4), .int 0])), (u 2, .inr (1, [.ref (u 0), .ref (u 1), .int 0, .int 0, .int 0, .int (-1)])), (u 4, .inr (0, [.ref (u 1), .ref (w 1), .ref (w 2), .ref (w 3), .ref (w 4), .ref (w 5), .ref (w 6), .ref (w 7), .int 0, .int 0, .int 0, .int 0, .int 0, .int 0, .int 0, .int 0])), (mm, .inr (7, MO rf 0 0 0 0 0)), (rf 2, .inl ((cf 0), 60, .inl (fun _ => 0))), (rf 14, .inl ((cf 1), 400, .inl (fun _ => 0))), (rf 15, .inl ((cf 2), 400, .inl (fun _ => 0))), (rf 16, .inl ((cf 3), 400, .inl (fun _ => 0))), (rf 17, .inl ((cf 4), 400, .inl (fun _ => 0))), (oo, .inl (cL, 1, .inr (.inl g_1)))] := hD
  have hK : va_K (dC, dI) vwCl [(cf 0, .int), (cf 1, .int), (cf 2, .int), (cf 3, .int), (cf 4, .int), (cL, .long)] s := hK
  refine lv_istore (lv' := [(5, .int 0), (4, .int 0), (3, .ref oo), (2, .ref mm), (1, .ref xx), (0, .ref b)]) hx hb dL_law_107 hl (by decide) rfl (fun ls hl => ?_)
  refine lv_aload_n hx hb dL_law_109 rfl (lv_at hl 3 rfl) ?_
  refine lv_aload_n hx hb dL_law_110 rfl (lv_at hl 5 rfl) ?_
  refine lv_iload hx hb dL_law_111 (lv_at hl 1 rfl) ?_
  refine lv_iconst (v := 1) hx hb dL_law_113 (by decide) ?_
  refine lv_iadd hx hb dL_law_114 ?_
  rw [show (0 : Int32) + 1 = 1 by decide]
  refine va_sld hx hb hX hbl hbA hS (i := 1) (by rw [vp_in_iff]; decide) dL_law_115 ?_
  rw [hp]
  have hPc := hP.sub (ws' := [(mm, .inr (7, MO rf 0 0 0 0 0)), (rf 2, .inl ((cf 0), 60, .inl (fun _ => 0)))]) [3, 4] rfl
  have hDc := hD.sub (ws' := [(mm, .inr (7, MO rf 0 0 0 0 0)), (rf 2, .inl ((cf 0), 60, .inl (fun _ => 0)))]) [3, 4] (by decide) rfl
  have hKc := hK.sub (tys' := [(cf 0, .int)]) [0] rfl
  have hFc := va_free (wc := [(mm, .inr (7, MO rf 0 0 0 0 0)), (rf 2, .inl ((cf 0), 60, .inl (fun _ => 0)))]) hD hS hA [3, 4] rfl
  refine va_calli (va_runV (As := [.int t]) (rest := []) ⟨hx, hb, hml, hown, hB⟩ (c_mtoken_y l dC dI mm rf (cf 0) t H.size ht) (cwV 1 hB (bgV bg308 bg309 bg310 bg225 bg311) rfl rfl rfl (by decide +kernel) ⟨Nat.le_of_ble_eq_true rfl, Nat.le_of_ble_eq_true rfl⟩) ⟨fun a U g mk q => by obtain ⟨q0, q1, qP, qK, qD⟩ := q; exact ⟨q0, q1, qP, va_K.moved (u := U) (U := U.calling g mk a) (Vm.Alike.refl U.vm) qK, qD⟩, va_recv hKc hPc (ci := 7) (q0 := 0) rfl rfl, fun U hU hW => ⟨rfl, by rw [hU], by rw [hU]; exact hPc, va_K.moved hW.alike hKc, hDc.weaken (fun _ _ _ _ => trivial)⟩⟩ rfl rfl hl.1 rfl (lv_room (Nat.le_of_ble_eq_true rfl)) dL_law_116 ⟨Nat.le_of_ble_eq_true rfl, Nat.le_of_ble_eq_true rfl⟩) hS (fun q _ h => hFc q h) hFc (fun r9 u9 t9 H1 locs ht9 hvm hw hB1 hz1 hk1 hS => ?_)
  obtain ⟨fs_3, rfl⟩ : ∃ z, z = u9 := ⟨_, rfl⟩
  try dsimp only at hB1 hw
  obtain ⟨hP1, hK1, hD1⟩ := hB1
  rw [ht9] at hP1
  have hK1 := va_K.moved hvm.symm hK1
  obtain ⟨rfl, w_4⟩ := hw
  obtain ⟨hP, hD⟩ := va_join (wr := [(u 1, .inr (2, [.ref (v 0), .ref (v 1), .ref (v 2), .ref (v 3), .ref (v 4), .int 0])), (u 2, .inr (1, [.ref (u 0), .ref (u 1), .int 0, .int 0, .int 0, .int (-1)])), (u 4, .inr (0, [.ref (u 1), .ref (w 1), .ref (w 2), .ref (w 3), .ref (w 4), .ref (w 5), .ref (w 6), .ref (w 7), .int 0, .int 0, .int 0, .int 0, .int 0, .int 0, .int 0, .int 0])), (rf 14, .inl ((cf 1), 400, .inl (fun _ => 0))), (rf 15, .inl ((cf 2), 400, .inl (fun _ => 0))), (rf 16, .inl ((cf 3), 400, .inl (fun _ => 0))), (rf 17, .inl ((cf 4), 400, .inl (fun _ => 0))), (oo, .inl (cL, 1, .inr (.inl g_1)))]) (w1 := [(mm, .inr (7, fs_3))]) hP hD [3, 4] [0, 1, 2, 5, 6, 7, 8, 9] rfl rfl (by decide) (by decide) hk1 hFc hP1 hD1
  have hK := (hK.sub (tys' := [(cf 1, .int), (cf 2, .int), (cf 3, .int), (cf 4, .int), (cL, .long)]) [1, 2, 3, 4, 5] rfl).app hK1
  generalize H1 = H at hP hS ⊢
  have hP : va_P (dC, dI) vwCl [(u 1, .inr (2, [.ref (v 0), .ref (v 1), .ref (v 2), .ref (v 3), .ref (v 4), .int 0])), (u 2, .inr (1, [.ref (u 0), .ref (u 1), .int 0, .int 0, .int 0, .int (-1)])), (u 4, .inr (0, [.ref (u 1), .ref (w 1), .ref (w 2), .ref (w 3), .ref (w 4), .ref (w 5), .ref (w 6), .ref (w 7), .int 0, .int 0, .int 0, .int 0, .int 0, .int 0, .int 0, .int 0])), (rf 14, .inl ((cf 1), 400, .inl (fun _ => 0))), (rf 15, .inl ((cf 2), 400, .inl (fun _ => 0))), (rf 16, .inl ((cf 3), 400, .inl (fun _ => 0))), (rf 17, .inl ((cf 4), 400, .inl (fun _ => 0))), (oo, .inl (cL, 1, .inr (.inl g_1))), (mm, .inr (7, fs_3))] H := hP
  have hD : va_D (fun q : Nat => s.heap.size ≤ q) [(u 1, .inr (2, [.ref (v 0), .ref (v 1), .ref (v 2), .ref (v 3), .ref (v 4), .int 0])), (u 2, .inr (1, [.ref (u 0), .ref (u 1), .int 0, .int 0, .int 0, .int (-1)])), (u 4, .inr (0, [.ref (u 1), .ref (w 1), .ref (w 2), .ref (w 3), .ref (w 4), .ref (w 5), .ref (w 6), .ref (w 7), .int 0, .int 0, .int 0, .int 0, .int 0, .int 0, .int 0, .int 0])), (rf 14, .inl ((cf 1), 400, .inl (fun _ => 0))), (rf 15, .inl ((cf 2), 400, .inl (fun _ => 0))), (rf 16, .inl ((cf 3), 400, .inl (fun _ => 0))), (rf 17, .inl ((cf 4), 400, .inl (fun _ => 0))), (oo, .inl (cL, 1, .inr (.inl g_1))), (mm, .inr (7, fs_3))] := hD
  have hK : va_K (dC, dI) vwCl [(cf 1, .int), (cf 2, .int), (cf 3, .int), (cf 4, .int), (cL, .long)] s := hK
  refine lv_istore (lv' := [(6, .int 1), (5, .int 0), (4, .int 0), (3, .ref oo), (2, .ref mm), (1, .ref xx), (0, .ref b)]) hx hb dL_law_119 hl (by decide) rfl (fun ls hl => ?_)
  refine lv_aload_n hx hb dL_law_121 rfl (lv_at hl 4 rfl) ?_
  have hPc := hP.sub (ws' := [(mm, .inr (7, fs_3))]) [8] rfl
  have hDc := hD.sub (ws' := [(mm, .inr (7, fs_3))]) [8] (by decide) rfl
  have hKc := hK.sub (tys' := []) [] rfl
  have hFc := va_free (wc := [(mm, .inr (7, fs_3))]) hD hS hA [8] rfl
  refine va_calli (va_runV (As := []) (rest := []) ⟨hx, hb, hml, hown, hB⟩ (c_thrown0 l dC dI mm fs_3 H.size w_4) (cwV 0 hB (bgV bg312 bg313 bg314 bg225 bg315) rfl rfl rfl (by decide +kernel) ⟨Nat.le_of_ble_eq_true rfl, Nat.le_of_ble_eq_true rfl⟩) ⟨fun a U g mk q => by obtain ⟨q0, q1, qP, qK, qD⟩ := q; exact ⟨q0, q1, qP, va_K.moved (u := U) (U := U.calling g mk a) (Vm.Alike.refl U.vm) qK, qD⟩, va_recv hKc hPc (ci := 7) (q0 := 0) rfl rfl, fun U hU hW => ⟨rfl, by rw [hU], by rw [hU]; exact hPc, va_K.moved hW.alike hKc, hDc.weaken (fun _ _ _ _ => trivial)⟩⟩ rfl rfl hl.1 rfl (lv_room (Nat.le_of_ble_eq_true rfl)) dL_law_122 ⟨Nat.le_of_ble_eq_true rfl, Nat.le_of_ble_eq_true rfl⟩) hS (fun q _ h => hFc q h) hFc (fun r9 u9 t9 H1 locs ht9 hvm hw hB1 hz1 hk1 hS => ?_)
  try dsimp only at hB1 hw
  obtain ⟨hP1, hK1, hD1⟩ := hB1
  rw [ht9] at hP1
  have hK1 := va_K.moved hvm.symm hK1
  obtain rfl := hw
  obtain ⟨hP, hD⟩ := va_join (wr := [(u 1, .inr (2, [.ref (v 0), .ref (v 1), .ref (v 2), .ref (v 3), .ref (v 4), .int 0])), (u 2, .inr (1, [.ref (u 0), .ref (u 1), .int 0, .int 0, .int 0, .int (-1)])), (u 4, .inr (0, [.ref (u 1), .ref (w 1), .ref (w 2), .ref (w 3), .ref (w 4), .ref (w 5), .ref (w 6), .ref (w 7), .int 0, .int 0, .int 0, .int 0, .int 0, .int 0, .int 0, .int 0])), (rf 14, .inl ((cf 1), 400, .inl (fun _ => 0))), (rf 15, .inl ((cf 2), 400, .inl (fun _ => 0))), (rf 16, .inl ((cf 3), 400, .inl (fun _ => 0))), (rf 17, .inl ((cf 4), 400, .inl (fun _ => 0))), (oo, .inl (cL, 1, .inr (.inl g_1)))]) (w1 := []) hP hD [8] [0, 1, 2, 3, 4, 5, 6, 7] rfl rfl (by decide) (by decide) hk1 hFc hP1 hD1
  have hK := (hK.sub (tys' := [(cf 1, .int), (cf 2, .int), (cf 3, .int), (cf 4, .int), (cL, .long)]) [0, 1, 2, 3, 4] rfl).app hK1
  generalize H1 = H at hP hS ⊢
  have hP : va_P (dC, dI) vwCl [(u 1, .inr (2, [.ref (v 0), .ref (v 1), .ref (v 2), .ref (v 3), .ref (v 4), .int 0])), (u 2, .inr (1, [.ref (u 0), .ref (u 1), .int 0, .int 0, .int 0, .int (-1)])), (u 4, .inr (0, [.ref (u 1), .ref (w 1), .ref (w 2), .ref (w 3), .ref (w 4), .ref (w 5), .ref (w 6), .ref (w 7), .int 0, .int 0, .int 0, .int 0, .int 0, .int 0, .int 0, .int 0])), (rf 14, .inl ((cf 1), 400, .inl (fun _ => 0))), (rf 15, .inl ((cf 2), 400, .inl (fun _ => 0))), (rf 16, .inl ((cf 3), 400, .inl (fun _ => 0))), (rf 17, .inl ((cf 4), 400, .inl (fun _ => 0))), (oo, .inl (cL, 1, .inr (.inl g_1)))] H := hP
  have hD : va_D (fun q : Nat => s.heap.size ≤ q) [(u 1, .inr (2, [.ref (v 0), .ref (v 1), .ref (v 2), .ref (v 3), .ref (v 4), .int 0])), (u 2, .inr (1, [.ref (u 0), .ref (u 1), .int 0, .int 0, .int 0, .int (-1)])), (u 4, .inr (0, [.ref (u 1), .ref (w 1), .ref (w 2), .ref (w 3), .ref (w 4), .ref (w 5), .ref (w 6), .ref (w 7), .int 0, .int 0, .int 0, .int 0, .int 0, .int 0, .int 0, .int 0])), (rf 14, .inl ((cf 1), 400, .inl (fun _ => 0))), (rf 15, .inl ((cf 2), 400, .inl (fun _ => 0))), (rf 16, .inl ((cf 3), 400, .inl (fun _ => 0))), (rf 17, .inl ((cf 4), 400, .inl (fun _ => 0))), (oo, .inl (cL, 1, .inr (.inl g_1)))] := hD
  have hK : va_K (dC, dI) vwCl [(cf 1, .int), (cf 2, .int), (cf 3, .int), (cf 4, .int), (cL, .long)] s := hK
  refine lv_iload hx hb dL_law_125 (lv_at hl 1 rfl) ?_
  refine lv_icmp_eq (tgt := 132) hx hb dL_law_127 (by decide) (fun _ => ?_) (fun c9 => absurd c9 (by decide))
  refine lv_iload hx hb dL_law_132 (lv_at hl 1 rfl) ?_
  refine lv_if_ne (tgt := 156) hx hb dL_law_134 (by decide) (fun c9 => absurd c9 (by decide)) (fun _ => ?_)
  refine lv_aload_n hx hb dL_law_137 rfl (lv_at hl 3 rfl) ?_
  refine lv_iconst (v := 0) hx hb dL_law_138 (by decide) ?_
  refine va_lald hx hb hK hP 7 4 rfl rfl (i := 0) (by rw [vp_in_iff]; decide) dL_law_139 ?_
  rw [show g_1 (0 : Int32).toNatClampNeg = 1 from (by rw [show (0 : Int32).toNatClampNeg = 0 by decide]; exact w_2)]
  refine lv_iload hx hb dL_law_140 (lv_at hl 0 rfl) ?_
  refine lv_if_eq (tgt := 149) hx hb dL_law_142 (by decide) (fun c9 => absurd c9 (by decide)) (fun _ => ?_)
  refine lv_lconst (v := 1) hx hb dL_law_145 (by decide) ?_
  refine lv_goto (tgt := 150) hx hb dL_law_146 (by decide) ?_
  refine W.lcmp hx hb dL_law_150 ?_
  rw [show lg_cmp (1 : Int64) 1 = 0 by decide]
  refine lv_if_eq (tgt := 156) hx hb dL_law_151 (by decide) (fun _ => ?_) (fun c9 => absurd c9 (by decide))
  refine lv_goto (tgt := 490) hx hb dL_law_156 (by decide) ?_
  exact law_end C0 _ _ hS (by decide) (by decide) ls (lv_sub hl [6, 2] rfl)
set_option maxHeartbeats 4000000 in
set_option maxRecDepth 100000 in
theorem law_token_n {p : Program} {l : Launch} {e : Env} {s : State} {m : MethodId} {below : List Frame} {meth : Method} {c : Code} (hl9 : l.stackTraces = false) {b : Nat} {xs : Nat → Int32} (C0 : lw_At p s m meth c b 2 xs) (dC : Nat → ClassId) (dI : Nat → Nat → Nat) (xx mm oo : Nat) (u v w : Nat → Nat) (cA : ClassId) (rf : Nat → Nat) (cf : Nat → ClassId) (cL : ClassId) (t : Int32) (hp : xs (1 : Int32).toNatClampNeg = t) (ht : ¬ tk t) (H : Heap) (locs : List Loc) (hK : va_K (dC, dI) vwCl [(cA, .int), (cf 0, .int), (cf 1, .int), (cf 2, .int), (cf 3, .int), (cf 4, .int), (cL, .long)] s) (hP : va_P (dC, dI) vwCl [(xx, .inr (6, CO u 0 0 0)), (u 0, .inl (cA, 60, .inl (fun _ => 0))), (u 1, .inr (2, [.ref (v 0), .ref (v 1), .ref (v 2), .ref (v 3), .ref (v 4), .int 0])), (u 2, .inr (1, [.ref (u 0), .ref (u 1), .int 0, .int 0, .int 0, .int (-1)])), (u 4, .inr (0, [.ref (u 1), .ref (w 1), .ref (w 2), .ref (w 3), .ref (w 4), .ref (w 5), .ref (w 6), .ref (w 7), .int 0, .int 0, .int 0, .int 0, .int 0, .int 0, .int 0, .int 0])), (mm, .inr (7, MO rf 0 0 0 0 0)), (rf 2, .inl ((cf 0), 60, .inl (fun _ => 0))), (rf 14, .inl ((cf 1), 400, .inl (fun _ => 0))), (rf 15, .inl ((cf 2), 400, .inl (fun _ => 0))), (rf 16, .inl ((cf 3), 400, .inl (fun _ => 0))), (rf 17, .inl ((cf 4), 400, .inl (fun _ => 0))), (oo, .inl (cL, 1, .inr (.inl (fun _ => 0))))] H) (hD : va_D (fun q : Nat => s.heap.size ≤ q) [(xx, .inr (6, CO u 0 0 0)), (u 0, .inl (cA, 60, .inl (fun _ => 0))), (u 1, .inr (2, [.ref (v 0), .ref (v 1), .ref (v 2), .ref (v 3), .ref (v 4), .int 0])), (u 2, .inr (1, [.ref (u 0), .ref (u 1), .int 0, .int 0, .int 0, .int (-1)])), (u 4, .inr (0, [.ref (u 1), .ref (w 1), .ref (w 2), .ref (w 3), .ref (w 4), .ref (w 5), .ref (w 6), .ref (w 7), .int 0, .int 0, .int 0, .int 0, .int 0, .int 0, .int 0, .int 0])), (mm, .inr (7, MO rf 0 0 0 0 0)), (rf 2, .inl ((cf 0), 60, .inl (fun _ => 0))), (rf 14, .inl ((cf 1), 400, .inl (fun _ => 0))), (rf 15, .inl ((cf 2), 400, .inl (fun _ => 0))), (rf 16, .inl ((cf 3), 400, .inl (fun _ => 0))), (rf 17, .inl ((cf 4), 400, .inl (fun _ => 0))), (oo, .inl (cL, 1, .inr (.inl (fun _ => 0))))]) (hS : va_S (fun q : Nat => s.heap.size ≤ q) s.heap H locs) (ls : Array Slot) (hl : lv_has ls 7 [(4, .int 0), (3, .ref oo), (2, .ref mm), (1, .ref xx), (0, .ref b)]) : W p l e room_1 s m #[Value.ref b] below meth c H locs 71 29142 (lw_Z below #[Value.ref b] s) (F0 m 96 ls []) := by
  obtain ⟨hx, hb, hr, hml, hown, hts, hX, hbl, hlocks, hgv⟩ := id C0
  have hown : s.vm.findClass RL = some m.cls := hown
  have hB : ∀ w ∈ BG, w.before #[Value.ref b] s = true := fun w h => hts w (BG_tb w h)
  have hA : ∀ q : Nat, s.heap.size ≤ q → (fun q : Nat => s.heap.size ≤ q) q := fun _ h => h
  have hbA : ¬ (fun q : Nat => s.heap.size ≤ q) b := Nat.not_le.mpr hbl
  refine lv_aload_n hx hb dL_law_96 rfl (lv_at hl 3 rfl) ?_
  refine lv_aload_n hx hb dL_law_97 rfl (lv_at hl 4 rfl) ?_
  refine lv_iload hx hb dL_law_98 (lv_at hl 0 rfl) ?_
  refine lv_iconst (v := 1) hx hb dL_law_100 (by decide) ?_
  refine lv_iadd hx hb dL_law_101 ?_
  rw [show (0 : Int32) + 1 = 1 by decide]
  refine va_sld hx hb hX hbl hbA hS (i := 1) (by rw [vp_in_iff]; decide) dL_law_102 ?_
  rw [hp]
  refine lv_aload_n hx hb dL_law_103 rfl (lv_at hl 1 rfl) ?_
  have hPc := hP.sub (ws' := [(xx, .inr (6, CO u 0 0 0)), (u 0, .inl (cA, 60, .inl (fun _ => 0))), (oo, .inl (cL, 1, .inr (.inl (fun _ => 0))))]) [0, 1, 11] rfl
  have hDc := hD.sub (ws' := [(xx, .inr (6, CO u 0 0 0)), (u 0, .inl (cA, 60, .inl (fun _ => 0))), (oo, .inl (cL, 1, .inr (.inl (fun _ => 0))))]) [0, 1, 11] (by decide) rfl
  have hKc := hK.sub (tys' := [(cA, .int), (cL, .long)]) [0, 6] rfl
  have hFc := va_free (wc := [(xx, .inr (6, CO u 0 0 0)), (u 0, .inl (cA, 60, .inl (fun _ => 0))), (oo, .inl (cL, 1, .inr (.inl (fun _ => 0))))]) hD hS hA [0, 1, 11] rfl
  refine va_calli (vx_runSW (As := [.ref xx, .int t, .ref oo]) (rest := []) ⟨hx, hb, hml, hown, hB⟩ (cl_token_n l dC dI xx u cA t oo cL H.size ht) (vx_cwSW 3 hB (bgW bg305 bg306 bg395 bg307) rfl rfl rfl (by decide +kernel) ⟨Nat.le_of_ble_eq_true rfl, Nat.le_of_ble_eq_true rfl⟩) ⟨fun a U g mk q => by obtain ⟨q0, q1, qP, qK, qD⟩ := q; exact ⟨q0, q1, qP, va_K.moved (u := U) (U := U.calling g mk a) (Vm.Alike.refl U.vm) qK, qD⟩, fun U hU hW => ⟨rfl, by rw [hU], by rw [hU]; exact hPc, va_K.moved hW.alike hKc, hDc.weaken (fun _ _ _ _ => trivial)⟩⟩ rfl rfl hl.1 rfl (lv_room (Nat.le_of_ble_eq_true rfl)) dL_law_104 ⟨Nat.le_of_ble_eq_true rfl, Nat.le_of_ble_eq_true rfl⟩) hS (fun q _ h => hFc q h) hFc (fun r9 u9 t9 H1 locs ht9 hvm hw hB1 hz1 hk1 hS => ?_)
  obtain ⟨g_1, rfl⟩ : ∃ z, z = u9 := ⟨_, rfl⟩
  try dsimp only at hB1 hw
  obtain ⟨hP1, hK1, hD1⟩ := hB1
  rw [ht9] at hP1
  have hK1 := va_K.moved hvm.symm hK1
  obtain ⟨rfl, w_2⟩ := hw
  obtain ⟨hP, hD⟩ := va_join (wr := [(u 1, .inr (2, [.ref (v 0), .ref (v 1), .ref (v 2), .ref (v 3), .ref (v 4), .int 0])), (u 2, .inr (1, [.ref (u 0), .ref (u 1), .int 0, .int 0, .int 0, .int (-1)])), (u 4, .inr (0, [.ref (u 1), .ref (w 1), .ref (w 2), .ref (w 3), .ref (w 4), .ref (w 5), .ref (w 6), .ref (w 7), .int 0, .int 0, .int 0, .int 0, .int 0, .int 0, .int 0, .int 0])), (mm, .inr (7, MO rf 0 0 0 0 0)), (rf 2, .inl ((cf 0), 60, .inl (fun _ => 0))), (rf 14, .inl ((cf 1), 400, .inl (fun _ => 0))), (rf 15, .inl ((cf 2), 400, .inl (fun _ => 0))), (rf 16, .inl ((cf 3), 400, .inl (fun _ => 0))), (rf 17, .inl ((cf 4), 400, .inl (fun _ => 0)))]) (w1 := [(oo, .inl (cL, 1, .inr (.inl g_1)))]) hP hD [0, 1, 11] [2, 3, 4, 5, 6, 7, 8, 9, 10] rfl rfl (by decide) (by decide) hk1 hFc hP1 hD1
  have hK := (hK.sub (tys' := [(cf 0, .int), (cf 1, .int), (cf 2, .int), (cf 3, .int), (cf 4, .int)]) [1, 2, 3, 4, 5] rfl).app hK1
  generalize H1 = H at hP hS ⊢
  have hP : va_P (dC, dI) vwCl [(u 1, .inr (2, [.ref (v 0), .ref (v 1), .ref (v 2), .ref (v 3), .ref (v 4), .int 0])), (u 2, .inr (1, [.ref (u 0), .ref (u 1), .int 0, .int 0, .int 0, .int (-1)])), (u 4, .inr (0, [.ref (u 1), .ref (w 1), .ref (w 2), .ref (w 3), .ref (w 4), .ref (w 5), .ref (w 6), .ref (w 7), .int 0, .int 0, .int 0, .int 0, .int 0, .int 0, .int 0, .int 0])), (mm, .inr (7, MO rf 0 0 0 0 0)), (rf 2, .inl ((cf 0), 60, .inl (fun _ => 0))), (rf 14, .inl ((cf 1), 400, .inl (fun _ => 0))), (rf 15, .inl ((cf 2), 400, .inl (fun _ => 0))), (rf 16, .inl ((cf 3), 400, .inl (fun _ => 0))), (rf 17, .inl ((cf 4), 400, .inl (fun _ => 0))), (oo, .inl (cL, 1, .inr (.inl g_1)))] H := hP
  have hD : va_D (fun q : Nat => s.heap.size ≤ q) [(u 1, .inr (2, [.ref (v 0), .ref (v 1), .ref (v 2), .ref (v 3), .ref (v 4), .int 0])), (u 2, .inr (1, [.ref (u 0), .ref (u 1), .int 0, .int 0, .int 0, .int (-1)])), (u 4, .inr (0, [.ref (u 1), .ref (w 1), .ref (w 2), .ref (w 3), .ref (w 4), .ref (w 5), .ref (w 6), .ref (w 7), .int 0, .int 0, .int 0, .int 0, .int 0, .int 0, .int 0, .int 0])), (mm, .inr (7, MO rf 0 0 0 0 0)), (rf 2, .inl ((cf 0), 60, .inl (fun _ => 0))), (rf 14, .inl ((cf 1), 400, .inl (fun _ => 0))), (rf 15, .inl ((cf 2), 400, .inl (fun _ => 0))), (rf 16, .inl ((cf 3), 400, .inl (fun _ => 0))), (rf 17, .inl ((cf 4), 400, .inl (fun _ => 0))), (oo, .inl (cL, 1, .inr (.inl g_1)))] := hD
  have hK : va_K (dC, dI) vwCl [(cf 0, .int), (cf 1, .int), (cf 2, .int), (cf 3, .int), (cf 4, .int), (cL, .long)] s := hK
  refine lv_istore (lv' := [(5, .int 0), (4, .int 0), (3, .ref oo), (2, .ref mm), (1, .ref xx), (0, .ref b)]) hx hb dL_law_107 hl (by decide) rfl (fun ls hl => ?_)
  refine lv_aload_n hx hb dL_law_109 rfl (lv_at hl 3 rfl) ?_
  refine lv_aload_n hx hb dL_law_110 rfl (lv_at hl 5 rfl) ?_
  refine lv_iload hx hb dL_law_111 (lv_at hl 1 rfl) ?_
  refine lv_iconst (v := 1) hx hb dL_law_113 (by decide) ?_
  refine lv_iadd hx hb dL_law_114 ?_
  rw [show (0 : Int32) + 1 = 1 by decide]
  refine va_sld hx hb hX hbl hbA hS (i := 1) (by rw [vp_in_iff]; decide) dL_law_115 ?_
  rw [hp]
  have hPc := hP.sub (ws' := [(mm, .inr (7, MO rf 0 0 0 0 0)), (rf 2, .inl ((cf 0), 60, .inl (fun _ => 0)))]) [3, 4] rfl
  have hDc := hD.sub (ws' := [(mm, .inr (7, MO rf 0 0 0 0 0)), (rf 2, .inl ((cf 0), 60, .inl (fun _ => 0)))]) [3, 4] (by decide) rfl
  have hKc := hK.sub (tys' := [(cf 0, .int)]) [0] rfl
  have hFc := va_free (wc := [(mm, .inr (7, MO rf 0 0 0 0 0)), (rf 2, .inl ((cf 0), 60, .inl (fun _ => 0)))]) hD hS hA [3, 4] rfl
  refine va_calli (va_runV (As := [.int t]) (rest := []) ⟨hx, hb, hml, hown, hB⟩ (c_mtoken_n l dC dI mm rf (cf 0) t H.size ht) (cwV 1 hB (bgV bg308 bg309 bg310 bg225 bg311) rfl rfl rfl (by decide +kernel) ⟨Nat.le_of_ble_eq_true rfl, Nat.le_of_ble_eq_true rfl⟩) ⟨fun a U g mk q => by obtain ⟨q0, q1, qP, qK, qD⟩ := q; exact ⟨q0, q1, qP, va_K.moved (u := U) (U := U.calling g mk a) (Vm.Alike.refl U.vm) qK, qD⟩, va_recv hKc hPc (ci := 7) (q0 := 0) rfl rfl, fun U hU hW => ⟨rfl, by rw [hU], by rw [hU]; exact hPc, va_K.moved hW.alike hKc, hDc.weaken (fun _ _ _ _ => trivial)⟩⟩ rfl rfl hl.1 rfl (lv_room (Nat.le_of_ble_eq_true rfl)) dL_law_116 ⟨Nat.le_of_ble_eq_true rfl, Nat.le_of_ble_eq_true rfl⟩) hS (fun q _ h => hFc q h) hFc (fun r9 u9 t9 H1 locs ht9 hvm hw hB1 hz1 hk1 hS => ?_)
  obtain ⟨fs_3, rfl⟩ : ∃ z, z = u9 := ⟨_, rfl⟩
  try dsimp only at hB1 hw
  obtain ⟨hP1, hK1, hD1⟩ := hB1
  rw [ht9] at hP1
  have hK1 := va_K.moved hvm.symm hK1
  obtain ⟨rfl, w_4⟩ := hw
  obtain ⟨hP, hD⟩ := va_join (wr := [(u 1, .inr (2, [.ref (v 0), .ref (v 1), .ref (v 2), .ref (v 3), .ref (v 4), .int 0])), (u 2, .inr (1, [.ref (u 0), .ref (u 1), .int 0, .int 0, .int 0, .int (-1)])), (u 4, .inr (0, [.ref (u 1), .ref (w 1), .ref (w 2), .ref (w 3), .ref (w 4), .ref (w 5), .ref (w 6), .ref (w 7), .int 0, .int 0, .int 0, .int 0, .int 0, .int 0, .int 0, .int 0])), (rf 14, .inl ((cf 1), 400, .inl (fun _ => 0))), (rf 15, .inl ((cf 2), 400, .inl (fun _ => 0))), (rf 16, .inl ((cf 3), 400, .inl (fun _ => 0))), (rf 17, .inl ((cf 4), 400, .inl (fun _ => 0))), (oo, .inl (cL, 1, .inr (.inl g_1)))]) (w1 := [(mm, .inr (7, fs_3))]) hP hD [3, 4] [0, 1, 2, 5, 6, 7, 8, 9] rfl rfl (by decide) (by decide) hk1 hFc hP1 hD1
  have hK := (hK.sub (tys' := [(cf 1, .int), (cf 2, .int), (cf 3, .int), (cf 4, .int), (cL, .long)]) [1, 2, 3, 4, 5] rfl).app hK1
  generalize H1 = H at hP hS ⊢
  have hP : va_P (dC, dI) vwCl [(u 1, .inr (2, [.ref (v 0), .ref (v 1), .ref (v 2), .ref (v 3), .ref (v 4), .int 0])), (u 2, .inr (1, [.ref (u 0), .ref (u 1), .int 0, .int 0, .int 0, .int (-1)])), (u 4, .inr (0, [.ref (u 1), .ref (w 1), .ref (w 2), .ref (w 3), .ref (w 4), .ref (w 5), .ref (w 6), .ref (w 7), .int 0, .int 0, .int 0, .int 0, .int 0, .int 0, .int 0, .int 0])), (rf 14, .inl ((cf 1), 400, .inl (fun _ => 0))), (rf 15, .inl ((cf 2), 400, .inl (fun _ => 0))), (rf 16, .inl ((cf 3), 400, .inl (fun _ => 0))), (rf 17, .inl ((cf 4), 400, .inl (fun _ => 0))), (oo, .inl (cL, 1, .inr (.inl g_1))), (mm, .inr (7, fs_3))] H := hP
  have hD : va_D (fun q : Nat => s.heap.size ≤ q) [(u 1, .inr (2, [.ref (v 0), .ref (v 1), .ref (v 2), .ref (v 3), .ref (v 4), .int 0])), (u 2, .inr (1, [.ref (u 0), .ref (u 1), .int 0, .int 0, .int 0, .int (-1)])), (u 4, .inr (0, [.ref (u 1), .ref (w 1), .ref (w 2), .ref (w 3), .ref (w 4), .ref (w 5), .ref (w 6), .ref (w 7), .int 0, .int 0, .int 0, .int 0, .int 0, .int 0, .int 0, .int 0])), (rf 14, .inl ((cf 1), 400, .inl (fun _ => 0))), (rf 15, .inl ((cf 2), 400, .inl (fun _ => 0))), (rf 16, .inl ((cf 3), 400, .inl (fun _ => 0))), (rf 17, .inl ((cf 4), 400, .inl (fun _ => 0))), (oo, .inl (cL, 1, .inr (.inl g_1))), (mm, .inr (7, fs_3))] := hD
  have hK : va_K (dC, dI) vwCl [(cf 1, .int), (cf 2, .int), (cf 3, .int), (cf 4, .int), (cL, .long)] s := hK
  refine lv_istore (lv' := [(6, .int 0), (5, .int 0), (4, .int 0), (3, .ref oo), (2, .ref mm), (1, .ref xx), (0, .ref b)]) hx hb dL_law_119 hl (by decide) rfl (fun ls hl => ?_)
  refine lv_aload_n hx hb dL_law_121 rfl (lv_at hl 4 rfl) ?_
  have hPc := hP.sub (ws' := [(mm, .inr (7, fs_3))]) [8] rfl
  have hDc := hD.sub (ws' := [(mm, .inr (7, fs_3))]) [8] (by decide) rfl
  have hKc := hK.sub (tys' := []) [] rfl
  have hFc := va_free (wc := [(mm, .inr (7, fs_3))]) hD hS hA [8] rfl
  refine va_calli (va_runV (As := []) (rest := []) ⟨hx, hb, hml, hown, hB⟩ (c_thrown0 l dC dI mm fs_3 H.size w_4) (cwV 0 hB (bgV bg312 bg313 bg314 bg225 bg315) rfl rfl rfl (by decide +kernel) ⟨Nat.le_of_ble_eq_true rfl, Nat.le_of_ble_eq_true rfl⟩) ⟨fun a U g mk q => by obtain ⟨q0, q1, qP, qK, qD⟩ := q; exact ⟨q0, q1, qP, va_K.moved (u := U) (U := U.calling g mk a) (Vm.Alike.refl U.vm) qK, qD⟩, va_recv hKc hPc (ci := 7) (q0 := 0) rfl rfl, fun U hU hW => ⟨rfl, by rw [hU], by rw [hU]; exact hPc, va_K.moved hW.alike hKc, hDc.weaken (fun _ _ _ _ => trivial)⟩⟩ rfl rfl hl.1 rfl (lv_room (Nat.le_of_ble_eq_true rfl)) dL_law_122 ⟨Nat.le_of_ble_eq_true rfl, Nat.le_of_ble_eq_true rfl⟩) hS (fun q _ h => hFc q h) hFc (fun r9 u9 t9 H1 locs ht9 hvm hw hB1 hz1 hk1 hS => ?_)
  try dsimp only at hB1 hw
  obtain ⟨hP1, hK1, hD1⟩ := hB1
  rw [ht9] at hP1
  have hK1 := va_K.moved hvm.symm hK1
  obtain rfl := hw
  obtain ⟨hP, hD⟩ := va_join (wr := [(u 1, .inr (2, [.ref (v 0), .ref (v 1), .ref (v 2), .ref (v 3), .ref (v 4), .int 0])), (u 2, .inr (1, [.ref (u 0), .ref (u 1), .int 0, .int 0, .int 0, .int (-1)])), (u 4, .inr (0, [.ref (u 1), .ref (w 1), .ref (w 2), .ref (w 3), .ref (w 4), .ref (w 5), .ref (w 6), .ref (w 7), .int 0, .int 0, .int 0, .int 0, .int 0, .int 0, .int 0, .int 0])), (rf 14, .inl ((cf 1), 400, .inl (fun _ => 0))), (rf 15, .inl ((cf 2), 400, .inl (fun _ => 0))), (rf 16, .inl ((cf 3), 400, .inl (fun _ => 0))), (rf 17, .inl ((cf 4), 400, .inl (fun _ => 0))), (oo, .inl (cL, 1, .inr (.inl g_1)))]) (w1 := []) hP hD [8] [0, 1, 2, 3, 4, 5, 6, 7] rfl rfl (by decide) (by decide) hk1 hFc hP1 hD1
  have hK := (hK.sub (tys' := [(cf 1, .int), (cf 2, .int), (cf 3, .int), (cf 4, .int), (cL, .long)]) [0, 1, 2, 3, 4] rfl).app hK1
  generalize H1 = H at hP hS ⊢
  have hP : va_P (dC, dI) vwCl [(u 1, .inr (2, [.ref (v 0), .ref (v 1), .ref (v 2), .ref (v 3), .ref (v 4), .int 0])), (u 2, .inr (1, [.ref (u 0), .ref (u 1), .int 0, .int 0, .int 0, .int (-1)])), (u 4, .inr (0, [.ref (u 1), .ref (w 1), .ref (w 2), .ref (w 3), .ref (w 4), .ref (w 5), .ref (w 6), .ref (w 7), .int 0, .int 0, .int 0, .int 0, .int 0, .int 0, .int 0, .int 0])), (rf 14, .inl ((cf 1), 400, .inl (fun _ => 0))), (rf 15, .inl ((cf 2), 400, .inl (fun _ => 0))), (rf 16, .inl ((cf 3), 400, .inl (fun _ => 0))), (rf 17, .inl ((cf 4), 400, .inl (fun _ => 0))), (oo, .inl (cL, 1, .inr (.inl g_1)))] H := hP
  have hD : va_D (fun q : Nat => s.heap.size ≤ q) [(u 1, .inr (2, [.ref (v 0), .ref (v 1), .ref (v 2), .ref (v 3), .ref (v 4), .int 0])), (u 2, .inr (1, [.ref (u 0), .ref (u 1), .int 0, .int 0, .int 0, .int (-1)])), (u 4, .inr (0, [.ref (u 1), .ref (w 1), .ref (w 2), .ref (w 3), .ref (w 4), .ref (w 5), .ref (w 6), .ref (w 7), .int 0, .int 0, .int 0, .int 0, .int 0, .int 0, .int 0, .int 0])), (rf 14, .inl ((cf 1), 400, .inl (fun _ => 0))), (rf 15, .inl ((cf 2), 400, .inl (fun _ => 0))), (rf 16, .inl ((cf 3), 400, .inl (fun _ => 0))), (rf 17, .inl ((cf 4), 400, .inl (fun _ => 0))), (oo, .inl (cL, 1, .inr (.inl g_1)))] := hD
  have hK : va_K (dC, dI) vwCl [(cf 1, .int), (cf 2, .int), (cf 3, .int), (cf 4, .int), (cL, .long)] s := hK
  refine lv_iload hx hb dL_law_125 (lv_at hl 1 rfl) ?_
  refine lv_icmp_eq (tgt := 132) hx hb dL_law_127 (by decide) (fun _ => ?_) (fun c9 => absurd c9 (by decide))
  refine lv_iload hx hb dL_law_132 (lv_at hl 1 rfl) ?_
  refine lv_if_ne (tgt := 156) hx hb dL_law_134 (by decide) (fun c9 => absurd c9 (by decide)) (fun _ => ?_)
  refine lv_aload_n hx hb dL_law_137 rfl (lv_at hl 3 rfl) ?_
  refine lv_iconst (v := 0) hx hb dL_law_138 (by decide) ?_
  refine va_lald hx hb hK hP 7 4 rfl rfl (i := 0) (by rw [vp_in_iff]; decide) dL_law_139 ?_
  rw [show g_1 (0 : Int32).toNatClampNeg = 0 from (by rw [show (0 : Int32).toNatClampNeg = 0 by decide]; exact w_2)]
  refine lv_iload hx hb dL_law_140 (lv_at hl 0 rfl) ?_
  refine lv_if_eq (tgt := 149) hx hb dL_law_142 (by decide) (fun _ => ?_) (fun c9 => absurd c9 (by decide))
  refine lv_lconst (v := 0) hx hb dL_law_149 (by decide) ?_
  refine W.lcmp hx hb dL_law_150 ?_
  rw [show lg_cmp (0 : Int64) 0 = 0 by decide]
  refine lv_if_eq (tgt := 156) hx hb dL_law_151 (by decide) (fun _ => ?_) (fun c9 => absurd c9 (by decide))
  refine lv_goto (tgt := 490) hx hb dL_law_156 (by decide) ?_
  exact law_end C0 _ _ hS (by decide) (by decide) ls (lv_sub hl [6, 2] rfl)
set_option maxHeartbeats 4000000 in
set_option maxRecDepth 100000 in
theorem law_parse {p : Program} {l : Launch} {e : Env} {s : State} {m : MethodId} {below : List Frame} {meth : Method} {c : Code} (hl9 : l.stackTraces = false) {b : Nat} {xs : Nat → Int32} (C0 : lw_At p s m meth c b 2 xs) (dC : Nat → ClassId) (dI : Nat → Nat → Nat) (xx mm oo : Nat) (u v w : Nat → Nat) (cA : ClassId) (rf : Nat → Nat) (cf : Nat → ClassId) (cL : ClassId) (H : Heap) (locs : List Loc) (hK : va_K (dC, dI) vwCl [(cA, .int), (cf 0, .int), (cf 1, .int), (cf 2, .int), (cf 3, .int), (cf 4, .int), (cL, .long)] s) (hP : va_P (dC, dI) vwCl [(xx, .inr (6, CO u 0 0 0)), (u 0, .inl (cA, 60, .inl (fun _ => 0))), (u 1, .inr (2, [.ref (v 0), .ref (v 1), .ref (v 2), .ref (v 3), .ref (v 4), .int 0])), (u 2, .inr (1, [.ref (u 0), .ref (u 1), .int 0, .int 0, .int 0, .int (-1)])), (u 4, .inr (0, [.ref (u 1), .ref (w 1), .ref (w 2), .ref (w 3), .ref (w 4), .ref (w 5), .ref (w 6), .ref (w 7), .int 0, .int 0, .int 0, .int 0, .int 0, .int 0, .int 0, .int 0])), (mm, .inr (7, MO rf 0 0 0 0 0)), (rf 2, .inl ((cf 0), 60, .inl (fun _ => 0))), (rf 14, .inl ((cf 1), 400, .inl (fun _ => 0))), (rf 15, .inl ((cf 2), 400, .inl (fun _ => 0))), (rf 16, .inl ((cf 3), 400, .inl (fun _ => 0))), (rf 17, .inl ((cf 4), 400, .inl (fun _ => 0))), (oo, .inl (cL, 1, .inr (.inl (fun _ => 0))))] H) (hD : va_D (fun q : Nat => s.heap.size ≤ q) [(xx, .inr (6, CO u 0 0 0)), (u 0, .inl (cA, 60, .inl (fun _ => 0))), (u 1, .inr (2, [.ref (v 0), .ref (v 1), .ref (v 2), .ref (v 3), .ref (v 4), .int 0])), (u 2, .inr (1, [.ref (u 0), .ref (u 1), .int 0, .int 0, .int 0, .int (-1)])), (u 4, .inr (0, [.ref (u 1), .ref (w 1), .ref (w 2), .ref (w 3), .ref (w 4), .ref (w 5), .ref (w 6), .ref (w 7), .int 0, .int 0, .int 0, .int 0, .int 0, .int 0, .int 0, .int 0])), (mm, .inr (7, MO rf 0 0 0 0 0)), (rf 2, .inl ((cf 0), 60, .inl (fun _ => 0))), (rf 14, .inl ((cf 1), 400, .inl (fun _ => 0))), (rf 15, .inl ((cf 2), 400, .inl (fun _ => 0))), (rf 16, .inl ((cf 3), 400, .inl (fun _ => 0))), (rf 17, .inl ((cf 4), 400, .inl (fun _ => 0))), (oo, .inl (cL, 1, .inr (.inl (fun _ => 0))))]) (hS : va_S (fun q : Nat => s.heap.size ≤ q) s.heap H locs) (ls : Array Slot) (hl : lv_has ls 7 [(4, .int 0), (3, .ref oo), (2, .ref mm), (1, .ref xx), (0, .ref b)]) : W p l e room_1 s m #[Value.ref b] below meth c H locs 71 29142 (lw_Z below #[Value.ref b] s) (F0 m 159 ls []) := by
  obtain ⟨hx, hb, hr, hml, hown, hts, hX, hbl, hlocks, hgv⟩ := id C0
  have hown : s.vm.findClass RL = some m.cls := hown
  have hB : ∀ w ∈ BG, w.before #[Value.ref b] s = true := fun w h => hts w (BG_tb w h)
  have hA : ∀ q : Nat, s.heap.size ≤ q → (fun q : Nat => s.heap.size ≤ q) q := fun _ h => h
  have hbA : ¬ (fun q : Nat => s.heap.size ≤ q) b := Nat.not_le.mpr hbl
  have hE : va_Nw NEST s := va_Nw.of rfl (hts NEST (by decide +kernel))
  refine lv_aload_n hx hb dL_law_159 rfl (lv_at hl 3 rfl) ?_
  refine lv_aload_n hx hb dL_law_160 rfl (lv_at hl 1 rfl) ?_
  have hPc := hP.sub (ws' := [(xx, .inr (6, CO u 0 0 0)), (u 1, .inr (2, [.ref (v 0), .ref (v 1), .ref (v 2), .ref (v 3), .ref (v 4), .int 0])), (u 2, .inr (1, [.ref (u 0), .ref (u 1), .int 0, .int 0, .int 0, .int (-1)])), (oo, .inl (cL, 1, .inr (.inl (fun _ => 0))))]) [0, 2, 3, 11] rfl
  have hDc := hD.sub (ws' := [(xx, .inr (6, CO u 0 0 0)), (u 1, .inr (2, [.ref (v 0), .ref (v 1), .ref (v 2), .ref (v 3), .ref (v 4), .int 0])), (u 2, .inr (1, [.ref (u 0), .ref (u 1), .int 0, .int 0, .int 0, .int (-1)])), (oo, .inl (cL, 1, .inr (.inl (fun _ => 0))))]) [0, 2, 3, 11] (by decide) rfl
  have hKc := hK.sub (tys' := [(cL, .long)]) [6] rfl
  have hFc := va_free (wc := [(xx, .inr (6, CO u 0 0 0)), (u 1, .inr (2, [.ref (v 0), .ref (v 1), .ref (v 2), .ref (v 3), .ref (v 4), .int 0])), (u 2, .inr (1, [.ref (u 0), .ref (u 1), .int 0, .int 0, .int 0, .int (-1)])), (oo, .inl (cL, 1, .inr (.inl (fun _ => 0))))]) hD hS hA [0, 2, 3, 11] rfl
  refine va_calli (vx_runSW (As := [.ref xx, .ref oo]) (rest := []) ⟨hx, hb, hml, hown, hB⟩ (cl_parse l dC dI xx u v oo cL H.size) (vx_cwSW 2 hB (bgW bg316 bg317 bg395 bg318) rfl rfl rfl (by decide +kernel) ⟨Nat.le_of_ble_eq_true rfl, Nat.le_of_ble_eq_true rfl⟩) ⟨fun a U g mk q => by obtain ⟨q0, q1, qP, qK, qD, qE⟩ := q; exact ⟨q0, q1, qP, va_K.moved (u := U) (U := U.calling g mk a) (Vm.Alike.refl U.vm) qK, qD, va_Nw.same (u := U) rfl rfl qE⟩, fun U hU hW => ⟨rfl, by rw [hU], by rw [hU]; exact hPc, va_K.moved hW.alike hKc, hDc.weaken (fun _ _ _ _ => trivial), va_Nw.warmM hW hE⟩⟩ rfl rfl hl.1 rfl (lv_room (Nat.le_of_ble_eq_true rfl)) dL_law_161 ⟨Nat.le_of_ble_eq_true rfl, Nat.le_of_ble_eq_true rfl⟩) hS (fun q _ h => hFc q h) hFc (fun r9 u9 t9 H1 locs ht9 hvm hw hB1 hz1 hk1 hS => ?_)
  obtain ⟨g_1, rfl⟩ : ∃ z, z = u9 := ⟨_, rfl⟩
  try dsimp only at hB1 hw
  obtain ⟨hP1, hK1, hD1⟩ := hB1
  rw [ht9] at hP1
  have hK1 := va_K.moved hvm.symm hK1
  obtain ⟨rfl, w_2⟩ := hw
  obtain ⟨hP, hD⟩ := va_join (wr := [(u 0, .inl (cA, 60, .inl (fun _ => 0))), (u 4, .inr (0, [.ref (u 1), .ref (w 1), .ref (w 2), .ref (w 3), .ref (w 4), .ref (w 5), .ref (w 6), .ref (w 7), .int 0, .int 0, .int 0, .int 0, .int 0, .int 0, .int 0, .int 0])), (mm, .inr (7, MO rf 0 0 0 0 0)), (rf 2, .inl ((cf 0), 60, .inl (fun _ => 0))), (rf 14, .inl ((cf 1), 400, .inl (fun _ => 0))), (rf 15, .inl ((cf 2), 400, .inl (fun _ => 0))), (rf 16, .inl ((cf 3), 400, .inl (fun _ => 0))), (rf 17, .inl ((cf 4), 400, .inl (fun _ => 0)))]) (w1 := [(oo, .inl (cL, 1, .inr (.inl g_1)))]) hP hD [0, 2, 3, 11] [1, 4, 5, 6, 7, 8, 9, 10] rfl rfl (by decide) (by decide) hk1 hFc hP1 hD1
  have hK := (hK.sub (tys' := [(cA, .int), (cf 0, .int), (cf 1, .int), (cf 2, .int), (cf 3, .int), (cf 4, .int)]) [0, 1, 2, 3, 4, 5] rfl).app hK1
  generalize H1 = H at hP hS ⊢
  have hP : va_P (dC, dI) vwCl [(u 0, .inl (cA, 60, .inl (fun _ => 0))), (u 4, .inr (0, [.ref (u 1), .ref (w 1), .ref (w 2), .ref (w 3), .ref (w 4), .ref (w 5), .ref (w 6), .ref (w 7), .int 0, .int 0, .int 0, .int 0, .int 0, .int 0, .int 0, .int 0])), (mm, .inr (7, MO rf 0 0 0 0 0)), (rf 2, .inl ((cf 0), 60, .inl (fun _ => 0))), (rf 14, .inl ((cf 1), 400, .inl (fun _ => 0))), (rf 15, .inl ((cf 2), 400, .inl (fun _ => 0))), (rf 16, .inl ((cf 3), 400, .inl (fun _ => 0))), (rf 17, .inl ((cf 4), 400, .inl (fun _ => 0))), (oo, .inl (cL, 1, .inr (.inl g_1)))] H := hP
  have hD : va_D (fun q : Nat => s.heap.size ≤ q) [(u 0, .inl (cA, 60, .inl (fun _ => 0))), (u 4, .inr (0, [.ref (u 1), .ref (w 1), .ref (w 2), .ref (w 3), .ref (w 4), .ref (w 5), .ref (w 6), .ref (w 7), .int 0, .int 0, .int 0, .int 0, .int 0, .int 0, .int 0, .int 0])), (mm, .inr (7, MO rf 0 0 0 0 0)), (rf 2, .inl ((cf 0), 60, .inl (fun _ => 0))), (rf 14, .inl ((cf 1), 400, .inl (fun _ => 0))), (rf 15, .inl ((cf 2), 400, .inl (fun _ => 0))), (rf 16, .inl ((cf 3), 400, .inl (fun _ => 0))), (rf 17, .inl ((cf 4), 400, .inl (fun _ => 0))), (oo, .inl (cL, 1, .inr (.inl g_1)))] := hD
  have hK : va_K (dC, dI) vwCl [(cA, .int), (cf 0, .int), (cf 1, .int), (cf 2, .int), (cf 3, .int), (cf 4, .int), (cL, .long)] s := hK
  refine lv_istore (lv' := [(5, .int 0), (4, .int 0), (3, .ref oo), (2, .ref mm), (1, .ref xx), (0, .ref b)]) hx hb dL_law_164 hl (by decide) rfl (fun ls hl => ?_)
  refine lv_aload_n hx hb dL_law_166 rfl (lv_at hl 3 rfl) ?_
  have hPc := hP.sub (ws' := [(mm, .inr (7, MO rf 0 0 0 0 0)), (rf 14, .inl ((cf 1), 400, .inl (fun _ => 0))), (rf 15, .inl ((cf 2), 400, .inl (fun _ => 0))), (rf 16, .inl ((cf 3), 400, .inl (fun _ => 0))), (rf 17, .inl ((cf 4), 400, .inl (fun _ => 0)))]) [2, 4, 5, 6, 7] rfl
  have hDc := hD.sub (ws' := [(mm, .inr (7, MO rf 0 0 0 0 0)), (rf 14, .inl ((cf 1), 400, .inl (fun _ => 0))), (rf 15, .inl ((cf 2), 400, .inl (fun _ => 0))), (rf 16, .inl ((cf 3), 400, .inl (fun _ => 0))), (rf 17, .inl ((cf 4), 400, .inl (fun _ => 0)))]) [2, 4, 5, 6, 7] (by decide) rfl
  have hKc := hK.sub (tys' := [(cf 1, .int), (cf 2, .int), (cf 3, .int), (cf 4, .int)]) [2, 3, 4, 5] rfl
  have hFc := va_free (wc := [(mm, .inr (7, MO rf 0 0 0 0 0)), (rf 14, .inl ((cf 1), 400, .inl (fun _ => 0))), (rf 15, .inl ((cf 2), 400, .inl (fun _ => 0))), (rf 16, .inl ((cf 3), 400, .inl (fun _ => 0))), (rf 17, .inl ((cf 4), 400, .inl (fun _ => 0)))]) hD hS hA [2, 4, 5, 6, 7] rfl
  refine va_calli (va_runV (As := []) (rest := []) ⟨hx, hb, hml, hown, hB⟩ (c_mparse l dC dI mm rf (cf 1) (cf 2) (cf 3) (cf 4) H.size) (cwV 0 hB (bgV bg319 bg320 bg321 bg225 bg322) rfl rfl rfl (by decide +kernel) ⟨Nat.le_of_ble_eq_true rfl, Nat.le_of_ble_eq_true rfl⟩) ⟨fun a U g mk q => by obtain ⟨q0, q1, qP, qK, qD⟩ := q; exact ⟨q0, q1, qP, va_K.moved (u := U) (U := U.calling g mk a) (Vm.Alike.refl U.vm) qK, qD⟩, va_recv hKc hPc (ci := 7) (q0 := 0) rfl rfl, fun U hU hW => ⟨rfl, by rw [hU], by rw [hU]; exact hPc, va_K.moved hW.alike hKc, hDc.weaken (fun _ _ _ _ => trivial)⟩⟩ rfl rfl hl.1 rfl (lv_room (Nat.le_of_ble_eq_true rfl)) dL_law_167 ⟨Nat.le_of_ble_eq_true rfl, Nat.le_of_ble_eq_true rfl⟩) hS (fun q _ h => hFc q h) hFc (fun r9 u9 t9 H1 locs ht9 hvm hw hB1 hz1 hk1 hS => ?_)
  obtain ⟨fs_3, rfl⟩ : ∃ z, z = u9 := ⟨_, rfl⟩
  try dsimp only at hB1 hw
  obtain ⟨hP1, hK1, hD1⟩ := hB1
  rw [ht9] at hP1
  have hK1 := va_K.moved hvm.symm hK1
  obtain ⟨rfl, w_4⟩ := hw
  obtain ⟨hP, hD⟩ := va_join (wr := [(u 0, .inl (cA, 60, .inl (fun _ => 0))), (u 4, .inr (0, [.ref (u 1), .ref (w 1), .ref (w 2), .ref (w 3), .ref (w 4), .ref (w 5), .ref (w 6), .ref (w 7), .int 0, .int 0, .int 0, .int 0, .int 0, .int 0, .int 0, .int 0])), (rf 2, .inl ((cf 0), 60, .inl (fun _ => 0))), (oo, .inl (cL, 1, .inr (.inl g_1)))]) (w1 := [(mm, .inr (7, fs_3))]) hP hD [2, 4, 5, 6, 7] [0, 1, 3, 8] rfl rfl (by decide) (by decide) hk1 hFc hP1 hD1
  have hK := (hK.sub (tys' := [(cA, .int), (cf 0, .int), (cL, .long)]) [0, 1, 6] rfl).app hK1
  generalize H1 = H at hP hS ⊢
  have hP : va_P (dC, dI) vwCl [(u 0, .inl (cA, 60, .inl (fun _ => 0))), (u 4, .inr (0, [.ref (u 1), .ref (w 1), .ref (w 2), .ref (w 3), .ref (w 4), .ref (w 5), .ref (w 6), .ref (w 7), .int 0, .int 0, .int 0, .int 0, .int 0, .int 0, .int 0, .int 0])), (rf 2, .inl ((cf 0), 60, .inl (fun _ => 0))), (oo, .inl (cL, 1, .inr (.inl g_1))), (mm, .inr (7, fs_3))] H := hP
  have hD : va_D (fun q : Nat => s.heap.size ≤ q) [(u 0, .inl (cA, 60, .inl (fun _ => 0))), (u 4, .inr (0, [.ref (u 1), .ref (w 1), .ref (w 2), .ref (w 3), .ref (w 4), .ref (w 5), .ref (w 6), .ref (w 7), .int 0, .int 0, .int 0, .int 0, .int 0, .int 0, .int 0, .int 0])), (rf 2, .inl ((cf 0), 60, .inl (fun _ => 0))), (oo, .inl (cL, 1, .inr (.inl g_1))), (mm, .inr (7, fs_3))] := hD
  have hK : va_K (dC, dI) vwCl [(cA, .int), (cf 0, .int), (cL, .long)] s := hK
  refine lv_istore (lv' := [(6, .int 1), (5, .int 0), (4, .int 0), (3, .ref oo), (2, .ref mm), (1, .ref xx), (0, .ref b)]) hx hb dL_law_170 hl (by decide) rfl (fun ls hl => ?_)
  refine lv_aload_n hx hb dL_law_172 rfl (lv_at hl 4 rfl) ?_
  have hPc := hP.sub (ws' := [(mm, .inr (7, fs_3))]) [4] rfl
  have hDc := hD.sub (ws' := [(mm, .inr (7, fs_3))]) [4] (by decide) rfl
  have hKc := hK.sub (tys' := []) [] rfl
  have hFc := va_free (wc := [(mm, .inr (7, fs_3))]) hD hS hA [4] rfl
  refine va_calli (va_runV (As := []) (rest := []) ⟨hx, hb, hml, hown, hB⟩ (c_thrown0 l dC dI mm fs_3 H.size w_4) (cwV 0 hB (bgV bg312 bg313 bg314 bg225 bg315) rfl rfl rfl (by decide +kernel) ⟨Nat.le_of_ble_eq_true rfl, Nat.le_of_ble_eq_true rfl⟩) ⟨fun a U g mk q => by obtain ⟨q0, q1, qP, qK, qD⟩ := q; exact ⟨q0, q1, qP, va_K.moved (u := U) (U := U.calling g mk a) (Vm.Alike.refl U.vm) qK, qD⟩, va_recv hKc hPc (ci := 7) (q0 := 0) rfl rfl, fun U hU hW => ⟨rfl, by rw [hU], by rw [hU]; exact hPc, va_K.moved hW.alike hKc, hDc.weaken (fun _ _ _ _ => trivial)⟩⟩ rfl rfl hl.1 rfl (lv_room (Nat.le_of_ble_eq_true rfl)) dL_law_173 ⟨Nat.le_of_ble_eq_true rfl, Nat.le_of_ble_eq_true rfl⟩) hS (fun q _ h => hFc q h) hFc (fun r9 u9 t9 H1 locs ht9 hvm hw hB1 hz1 hk1 hS => ?_)
  try dsimp only at hB1 hw
  obtain ⟨hP1, hK1, hD1⟩ := hB1
  rw [ht9] at hP1
  have hK1 := va_K.moved hvm.symm hK1
  obtain rfl := hw
  obtain ⟨hP, hD⟩ := va_join (wr := [(u 0, .inl (cA, 60, .inl (fun _ => 0))), (u 4, .inr (0, [.ref (u 1), .ref (w 1), .ref (w 2), .ref (w 3), .ref (w 4), .ref (w 5), .ref (w 6), .ref (w 7), .int 0, .int 0, .int 0, .int 0, .int 0, .int 0, .int 0, .int 0])), (rf 2, .inl ((cf 0), 60, .inl (fun _ => 0))), (oo, .inl (cL, 1, .inr (.inl g_1)))]) (w1 := []) hP hD [4] [0, 1, 2, 3] rfl rfl (by decide) (by decide) hk1 hFc hP1 hD1
  have hK := (hK.sub (tys' := [(cA, .int), (cf 0, .int), (cL, .long)]) [0, 1, 2] rfl).app hK1
  generalize H1 = H at hP hS ⊢
  have hP : va_P (dC, dI) vwCl [(u 0, .inl (cA, 60, .inl (fun _ => 0))), (u 4, .inr (0, [.ref (u 1), .ref (w 1), .ref (w 2), .ref (w 3), .ref (w 4), .ref (w 5), .ref (w 6), .ref (w 7), .int 0, .int 0, .int 0, .int 0, .int 0, .int 0, .int 0, .int 0])), (rf 2, .inl ((cf 0), 60, .inl (fun _ => 0))), (oo, .inl (cL, 1, .inr (.inl g_1)))] H := hP
  have hD : va_D (fun q : Nat => s.heap.size ≤ q) [(u 0, .inl (cA, 60, .inl (fun _ => 0))), (u 4, .inr (0, [.ref (u 1), .ref (w 1), .ref (w 2), .ref (w 3), .ref (w 4), .ref (w 5), .ref (w 6), .ref (w 7), .int 0, .int 0, .int 0, .int 0, .int 0, .int 0, .int 0, .int 0])), (rf 2, .inl ((cf 0), 60, .inl (fun _ => 0))), (oo, .inl (cL, 1, .inr (.inl g_1)))] := hD
  have hK : va_K (dC, dI) vwCl [(cA, .int), (cf 0, .int), (cL, .long)] s := hK
  refine lv_iload hx hb dL_law_176 (lv_at hl 1 rfl) ?_
  refine lv_icmp_eq (tgt := 183) hx hb dL_law_178 (by decide) (fun _ => ?_) (fun c9 => absurd c9 (by decide))
  refine lv_iload hx hb dL_law_183 (lv_at hl 1 rfl) ?_
  refine lv_if_ne (tgt := 200) hx hb dL_law_185 (by decide) (fun c9 => absurd c9 (by decide)) (fun _ => ?_)
  refine lv_aload_n hx hb dL_law_188 rfl (lv_at hl 3 rfl) ?_
  refine lv_iconst (v := 0) hx hb dL_law_189 (by decide) ?_
  refine va_lald hx hb hK hP 3 2 rfl rfl (i := 0) (by rw [vp_in_iff]; decide) dL_law_190 ?_
  rw [show g_1 (0 : Int32).toNatClampNeg = 1 from (by rw [show (0 : Int32).toNatClampNeg = 0 by decide]; exact w_2)]
  refine lv_iload hx hb dL_law_191 (lv_at hl 0 rfl) ?_
  refine lv_i2l (v := 1) hx hb dL_law_193 (by decide) ?_
  refine W.lcmp hx hb dL_law_194 ?_
  rw [show lg_cmp (1 : Int64) 1 = 0 by decide]
  refine lv_if_eq (tgt := 200) hx hb dL_law_195 (by decide) (fun _ => ?_) (fun c9 => absurd c9 (by decide))
  refine lv_goto (tgt := 490) hx hb dL_law_200 (by decide) ?_
  exact law_end C0 _ _ hS (by decide) (by decide) ls (lv_sub hl [6, 2] rfl)
set_option maxHeartbeats 4000000 in
set_option maxRecDepth 100000 in
theorem law_infer {p : Program} {l : Launch} {e : Env} {s : State} {m : MethodId} {below : List Frame} {meth : Method} {c : Code} (hl9 : l.stackTraces = false) {b : Nat} {xs : Nat → Int32} (C0 : lw_At p s m meth c b 2 xs) (dC : Nat → ClassId) (dI : Nat → Nat → Nat) (xx mm oo : Nat) (u v w : Nat → Nat) (cA : ClassId) (rf : Nat → Nat) (cf : Nat → ClassId) (cL : ClassId) (H : Heap) (locs : List Loc) (hK : va_K (dC, dI) vwCl [(cA, .int), (cf 0, .int), (cf 1, .int), (cf 2, .int), (cf 3, .int), (cf 4, .int), (cL, .long)] s) (hP : va_P (dC, dI) vwCl [(xx, .inr (6, CO u 0 0 0)), (u 0, .inl (cA, 60, .inl (fun _ => 0))), (u 1, .inr (2, [.ref (v 0), .ref (v 1), .ref (v 2), .ref (v 3), .ref (v 4), .int 0])), (u 2, .inr (1, [.ref (u 0), .ref (u 1), .int 0, .int 0, .int 0, .int (-1)])), (u 4, .inr (0, [.ref (u 1), .ref (w 1), .ref (w 2), .ref (w 3), .ref (w 4), .ref (w 5), .ref (w 6), .ref (w 7), .int 0, .int 0, .int 0, .int 0, .int 0, .int 0, .int 0, .int 0])), (mm, .inr (7, MO rf 0 0 0 0 0)), (rf 2, .inl ((cf 0), 60, .inl (fun _ => 0))), (rf 14, .inl ((cf 1), 400, .inl (fun _ => 0))), (rf 15, .inl ((cf 2), 400, .inl (fun _ => 0))), (rf 16, .inl ((cf 3), 400, .inl (fun _ => 0))), (rf 17, .inl ((cf 4), 400, .inl (fun _ => 0))), (oo, .inl (cL, 1, .inr (.inl (fun _ => 0))))] H) (hD : va_D (fun q : Nat => s.heap.size ≤ q) [(xx, .inr (6, CO u 0 0 0)), (u 0, .inl (cA, 60, .inl (fun _ => 0))), (u 1, .inr (2, [.ref (v 0), .ref (v 1), .ref (v 2), .ref (v 3), .ref (v 4), .int 0])), (u 2, .inr (1, [.ref (u 0), .ref (u 1), .int 0, .int 0, .int 0, .int (-1)])), (u 4, .inr (0, [.ref (u 1), .ref (w 1), .ref (w 2), .ref (w 3), .ref (w 4), .ref (w 5), .ref (w 6), .ref (w 7), .int 0, .int 0, .int 0, .int 0, .int 0, .int 0, .int 0, .int 0])), (mm, .inr (7, MO rf 0 0 0 0 0)), (rf 2, .inl ((cf 0), 60, .inl (fun _ => 0))), (rf 14, .inl ((cf 1), 400, .inl (fun _ => 0))), (rf 15, .inl ((cf 2), 400, .inl (fun _ => 0))), (rf 16, .inl ((cf 3), 400, .inl (fun _ => 0))), (rf 17, .inl ((cf 4), 400, .inl (fun _ => 0))), (oo, .inl (cL, 1, .inr (.inl (fun _ => 0))))]) (hS : va_S (fun q : Nat => s.heap.size ≤ q) s.heap H locs) (ls : Array Slot) (hl : lv_has ls 7 [(4, .int 0), (3, .ref oo), (2, .ref mm), (1, .ref xx), (0, .ref b)]) : W p l e room_1 s m #[Value.ref b] below meth c H locs 71 29142 (lw_Z below #[Value.ref b] s) (F0 m 203 ls []) := by
  obtain ⟨hx, hb, hr, hml, hown, hts, hX, hbl, hlocks, hgv⟩ := id C0
  have hown : s.vm.findClass RL = some m.cls := hown
  have hB : ∀ w ∈ BG, w.before #[Value.ref b] s = true := fun w h => hts w (BG_tb w h)
  have hA : ∀ q : Nat, s.heap.size ≤ q → (fun q : Nat => s.heap.size ≤ q) q := fun _ h => h
  have hbA : ¬ (fun q : Nat => s.heap.size ≤ q) b := Nat.not_le.mpr hbl
  obtain ⟨sa, hE0⟩ := xn_85 C0
  have hE := XN.kept hE0 hS.2.1
  refine lv_aload_n hx hb dL_law_203 rfl (lv_at hl 3 rfl) ?_
  refine lv_aload_n hx hb dL_law_204 rfl (lv_at hl 1 rfl) ?_
  have hPc := hP.sub (ws' := [(xx, .inr (6, CO u 0 0 0))]) [0] rfl
  have hDc := hD.sub (ws' := [(xx, .inr (6, CO u 0 0 0))]) [0] (by decide) rfl
  have hKc := hK.sub (tys' := []) [] rfl
  have hFc := va_free (wc := [(xx, .inr (6, CO u 0 0 0))]) hD hS hA [0] rfl
  refine va_calli (vx_runSW (As := [.ref xx, .ref oo]) (rest := []) ⟨hx, hb, hml, hown, hB⟩ (cl_infer l hl9 dC dI xx u oo sa H.size) (vx_cwSW 2 hB (bgW bg323 bg324 bg395 bg325) rfl rfl rfl (by decide +kernel) ⟨Nat.le_of_ble_eq_true rfl, Nat.le_of_ble_eq_true rfl⟩) ⟨fun a U g mk q => by obtain ⟨q0, q1, qP, qK, qD, qE⟩ := q; exact ⟨q0, q1, qP, va_K.moved (u := U) (U := U.calling g mk a) (Vm.Alike.refl U.vm) qK, qD, XN.call qE⟩, fun U hU hW => ⟨rfl, by rw [hU], by rw [hU]; exact hPc, va_K.moved hW.alike hKc, hDc.weaken (fun _ _ _ _ => trivial), (by rw [hU]; exact XN.go hW hFc hE)⟩⟩ rfl rfl hl.1 rfl (lv_room (Nat.le_of_ble_eq_true rfl)) dL_law_205 ⟨Nat.le_of_ble_eq_true rfl, Nat.le_of_ble_eq_true rfl⟩) hS (fun q _ h => hFc q h) hFc (fun r9 u9 t9 H1 locs ht9 hvm hw hB1 hz1 hk1 hS => ?_)
  try dsimp only at hB1 hw
  obtain ⟨hP1, hK1, hD1⟩ := hB1
  rw [ht9] at hP1
  have hK1 := va_K.moved hvm.symm hK1
  obtain rfl := hw
  obtain ⟨hP, hD⟩ := va_join (wr := [(u 0, .inl (cA, 60, .inl (fun _ => 0))), (u 1, .inr (2, [.ref (v 0), .ref (v 1), .ref (v 2), .ref (v 3), .ref (v 4), .int 0])), (u 2, .inr (1, [.ref (u 0), .ref (u 1), .int 0, .int 0, .int 0, .int (-1)])), (u 4, .inr (0, [.ref (u 1), .ref (w 1), .ref (w 2), .ref (w 3), .ref (w 4), .ref (w 5), .ref (w 6), .ref (w 7), .int 0, .int 0, .int 0, .int 0, .int 0, .int 0, .int 0, .int 0])), (mm, .inr (7, MO rf 0 0 0 0 0)), (rf 2, .inl ((cf 0), 60, .inl (fun _ => 0))), (rf 14, .inl ((cf 1), 400, .inl (fun _ => 0))), (rf 15, .inl ((cf 2), 400, .inl (fun _ => 0))), (rf 16, .inl ((cf 3), 400, .inl (fun _ => 0))), (rf 17, .inl ((cf 4), 400, .inl (fun _ => 0))), (oo, .inl (cL, 1, .inr (.inl (fun _ => 0))))]) (w1 := []) hP hD [0] [1, 2, 3, 4, 5, 6, 7, 8, 9, 10, 11] rfl rfl (by decide) (by decide) hk1 hFc hP1 hD1
  have hK := (hK.sub (tys' := [(cA, .int), (cf 0, .int), (cf 1, .int), (cf 2, .int), (cf 3, .int), (cf 4, .int), (cL, .long)]) [0, 1, 2, 3, 4, 5, 6] rfl).app hK1
  generalize H1 = H at hP hS ⊢
  have hP : va_P (dC, dI) vwCl [(u 0, .inl (cA, 60, .inl (fun _ => 0))), (u 1, .inr (2, [.ref (v 0), .ref (v 1), .ref (v 2), .ref (v 3), .ref (v 4), .int 0])), (u 2, .inr (1, [.ref (u 0), .ref (u 1), .int 0, .int 0, .int 0, .int (-1)])), (u 4, .inr (0, [.ref (u 1), .ref (w 1), .ref (w 2), .ref (w 3), .ref (w 4), .ref (w 5), .ref (w 6), .ref (w 7), .int 0, .int 0, .int 0, .int 0, .int 0, .int 0, .int 0, .int 0])), (mm, .inr (7, MO rf 0 0 0 0 0)), (rf 2, .inl ((cf 0), 60, .inl (fun _ => 0))), (rf 14, .inl ((cf 1), 400, .inl (fun _ => 0))), (rf 15, .inl ((cf 2), 400, .inl (fun _ => 0))), (rf 16, .inl ((cf 3), 400, .inl (fun _ => 0))), (rf 17, .inl ((cf 4), 400, .inl (fun _ => 0))), (oo, .inl (cL, 1, .inr (.inl (fun _ => 0))))] H := hP
  have hD : va_D (fun q : Nat => s.heap.size ≤ q) [(u 0, .inl (cA, 60, .inl (fun _ => 0))), (u 1, .inr (2, [.ref (v 0), .ref (v 1), .ref (v 2), .ref (v 3), .ref (v 4), .int 0])), (u 2, .inr (1, [.ref (u 0), .ref (u 1), .int 0, .int 0, .int 0, .int (-1)])), (u 4, .inr (0, [.ref (u 1), .ref (w 1), .ref (w 2), .ref (w 3), .ref (w 4), .ref (w 5), .ref (w 6), .ref (w 7), .int 0, .int 0, .int 0, .int 0, .int 0, .int 0, .int 0, .int 0])), (mm, .inr (7, MO rf 0 0 0 0 0)), (rf 2, .inl ((cf 0), 60, .inl (fun _ => 0))), (rf 14, .inl ((cf 1), 400, .inl (fun _ => 0))), (rf 15, .inl ((cf 2), 400, .inl (fun _ => 0))), (rf 16, .inl ((cf 3), 400, .inl (fun _ => 0))), (rf 17, .inl ((cf 4), 400, .inl (fun _ => 0))), (oo, .inl (cL, 1, .inr (.inl (fun _ => 0))))] := hD
  have hK : va_K (dC, dI) vwCl [(cA, .int), (cf 0, .int), (cf 1, .int), (cf 2, .int), (cf 3, .int), (cf 4, .int), (cL, .long)] s := hK
  refine W.widen (k := 72) (n := 29148) (by decide) (by decide) ?_
  refine lv_istore (lv' := [(5, .int 1), (4, .int 0), (3, .ref oo), (2, .ref mm), (1, .ref xx), (0, .ref b)]) hx hb dL_law_208 hl (by decide) rfl (fun ls hl => ?_)
  refine lv_aload_n hx hb dL_law_210 rfl (lv_at hl 3 rfl) ?_
  have hPc := hP.sub (ws' := [(mm, .inr (7, MO rf 0 0 0 0 0))]) [4] rfl
  have hDc := hD.sub (ws' := [(mm, .inr (7, MO rf 0 0 0 0 0))]) [4] (by decide) rfl
  have hKc := hK.sub (tys' := []) [] rfl
  have hFc := va_free (wc := [(mm, .inr (7, MO rf 0 0 0 0 0))]) hD hS hA [4] rfl
  refine va_calli (va_runV (As := []) (rest := []) ⟨hx, hb, hml, hown, hB⟩ (c_minfer l dC dI mm rf H.size) (cwV 0 hB (bgV bg326 bg327 bg328 bg225 bg329) rfl rfl rfl (by decide +kernel) ⟨Nat.le_of_ble_eq_true rfl, Nat.le_of_ble_eq_true rfl⟩) ⟨fun a U g mk q => by obtain ⟨q0, q1, qP, qK, qD⟩ := q; exact ⟨q0, q1, qP, va_K.moved (u := U) (U := U.calling g mk a) (Vm.Alike.refl U.vm) qK, qD⟩, va_recv hKc hPc (ci := 7) (q0 := 0) rfl rfl, fun U hU hW => ⟨rfl, by rw [hU], by rw [hU]; exact hPc, va_K.moved hW.alike hKc, hDc.weaken (fun _ _ _ _ => trivial)⟩⟩ rfl rfl hl.1 rfl (lv_room (Nat.le_of_ble_eq_true rfl)) dL_law_211 ⟨Nat.le_of_ble_eq_true rfl, Nat.le_of_ble_eq_true rfl⟩) hS (fun q _ h => hFc q h) hFc (fun r9 u9 t9 H1 locs ht9 hvm hw hB1 hz1 hk1 hS => ?_)
  obtain ⟨fs_1, rfl⟩ : ∃ z, z = u9 := ⟨_, rfl⟩
  try dsimp only at hB1 hw
  obtain ⟨hP1, hK1, hD1⟩ := hB1
  rw [ht9] at hP1
  have hK1 := va_K.moved hvm.symm hK1
  obtain ⟨rfl, w_2⟩ := hw
  obtain ⟨hP, hD⟩ := va_join (wr := [(u 0, .inl (cA, 60, .inl (fun _ => 0))), (u 1, .inr (2, [.ref (v 0), .ref (v 1), .ref (v 2), .ref (v 3), .ref (v 4), .int 0])), (u 2, .inr (1, [.ref (u 0), .ref (u 1), .int 0, .int 0, .int 0, .int (-1)])), (u 4, .inr (0, [.ref (u 1), .ref (w 1), .ref (w 2), .ref (w 3), .ref (w 4), .ref (w 5), .ref (w 6), .ref (w 7), .int 0, .int 0, .int 0, .int 0, .int 0, .int 0, .int 0, .int 0])), (rf 2, .inl ((cf 0), 60, .inl (fun _ => 0))), (rf 14, .inl ((cf 1), 400, .inl (fun _ => 0))), (rf 15, .inl ((cf 2), 400, .inl (fun _ => 0))), (rf 16, .inl ((cf 3), 400, .inl (fun _ => 0))), (rf 17, .inl ((cf 4), 400, .inl (fun _ => 0))), (oo, .inl (cL, 1, .inr (.inl (fun _ => 0))))]) (w1 := [(mm, .inr (7, fs_1))]) hP hD [4] [0, 1, 2, 3, 5, 6, 7, 8, 9, 10] rfl rfl (by decide) (by decide) hk1 hFc hP1 hD1
  have hK := (hK.sub (tys' := [(cA, .int), (cf 0, .int), (cf 1, .int), (cf 2, .int), (cf 3, .int), (cf 4, .int), (cL, .long)]) [0, 1, 2, 3, 4, 5, 6] rfl).app hK1
  generalize H1 = H at hP hS ⊢
  have hP : va_P (dC, dI) vwCl [(u 0, .inl (cA, 60, .inl (fun _ => 0))), (u 1, .inr (2, [.ref (v 0), .ref (v 1), .ref (v 2), .ref (v 3), .ref (v 4), .int 0])), (u 2, .inr (1, [.ref (u 0), .ref (u 1), .int 0, .int 0, .int 0, .int (-1)])), (u 4, .inr (0, [.ref (u 1), .ref (w 1), .ref (w 2), .ref (w 3), .ref (w 4), .ref (w 5), .ref (w 6), .ref (w 7), .int 0, .int 0, .int 0, .int 0, .int 0, .int 0, .int 0, .int 0])), (rf 2, .inl ((cf 0), 60, .inl (fun _ => 0))), (rf 14, .inl ((cf 1), 400, .inl (fun _ => 0))), (rf 15, .inl ((cf 2), 400, .inl (fun _ => 0))), (rf 16, .inl ((cf 3), 400, .inl (fun _ => 0))), (rf 17, .inl ((cf 4), 400, .inl (fun _ => 0))), (oo, .inl (cL, 1, .inr (.inl (fun _ => 0)))), (mm, .inr (7, fs_1))] H := hP
  have hD : va_D (fun q : Nat => s.heap.size ≤ q) [(u 0, .inl (cA, 60, .inl (fun _ => 0))), (u 1, .inr (2, [.ref (v 0), .ref (v 1), .ref (v 2), .ref (v 3), .ref (v 4), .int 0])), (u 2, .inr (1, [.ref (u 0), .ref (u 1), .int 0, .int 0, .int 0, .int (-1)])), (u 4, .inr (0, [.ref (u 1), .ref (w 1), .ref (w 2), .ref (w 3), .ref (w 4), .ref (w 5), .ref (w 6), .ref (w 7), .int 0, .int 0, .int 0, .int 0, .int 0, .int 0, .int 0, .int 0])), (rf 2, .inl ((cf 0), 60, .inl (fun _ => 0))), (rf 14, .inl ((cf 1), 400, .inl (fun _ => 0))), (rf 15, .inl ((cf 2), 400, .inl (fun _ => 0))), (rf 16, .inl ((cf 3), 400, .inl (fun _ => 0))), (rf 17, .inl ((cf 4), 400, .inl (fun _ => 0))), (oo, .inl (cL, 1, .inr (.inl (fun _ => 0)))), (mm, .inr (7, fs_1))] := hD
  have hK : va_K (dC, dI) vwCl [(cA, .int), (cf 0, .int), (cf 1, .int), (cf 2, .int), (cf 3, .int), (cf 4, .int), (cL, .long)] s := hK
  refine lv_istore (lv' := [(6, .int 0), (5, .int 1), (4, .int 0), (3, .ref oo), (2, .ref mm), (1, .ref xx), (0, .ref b)]) hx hb dL_law_214 hl (by decide) rfl (fun ls hl => ?_)
  refine lv_aload_n hx hb dL_law_216 rfl (lv_at hl 4 rfl) ?_
  have hPc := hP.sub (ws' := [(mm, .inr (7, fs_1))]) [10] rfl
  have hDc := hD.sub (ws' := [(mm, .inr (7, fs_1))]) [10] (by decide) rfl
  have hKc := hK.sub (tys' := []) [] rfl
  have hFc := va_free (wc := [(mm, .inr (7, fs_1))]) hD hS hA [10] rfl
  refine va_calli (va_runV (As := []) (rest := []) ⟨hx, hb, hml, hown, hB⟩ (c_thrown1 l dC dI mm fs_1 H.size w_2) (cwV 0 hB (bgV bg312 bg313 bg314 bg225 bg315) rfl rfl rfl (by decide +kernel) ⟨Nat.le_of_ble_eq_true rfl, Nat.le_of_ble_eq_true rfl⟩) ⟨fun a U g mk q => by obtain ⟨q0, q1, qP, qK, qD⟩ := q; exact ⟨q0, q1, qP, va_K.moved (u := U) (U := U.calling g mk a) (Vm.Alike.refl U.vm) qK, qD⟩, va_recv hKc hPc (ci := 7) (q0 := 0) rfl rfl, fun U hU hW => ⟨rfl, by rw [hU], by rw [hU]; exact hPc, va_K.moved hW.alike hKc, hDc.weaken (fun _ _ _ _ => trivial)⟩⟩ rfl rfl hl.1 rfl (lv_room (Nat.le_of_ble_eq_true rfl)) dL_law_217 ⟨Nat.le_of_ble_eq_true rfl, Nat.le_of_ble_eq_true rfl⟩) hS (fun q _ h => hFc q h) hFc (fun r9 u9 t9 H1 locs ht9 hvm hw hB1 hz1 hk1 hS => ?_)
  try dsimp only at hB1 hw
  obtain ⟨hP1, hK1, hD1⟩ := hB1
  rw [ht9] at hP1
  have hK1 := va_K.moved hvm.symm hK1
  obtain rfl := hw
  obtain ⟨hP, hD⟩ := va_join (wr := [(u 0, .inl (cA, 60, .inl (fun _ => 0))), (u 1, .inr (2, [.ref (v 0), .ref (v 1), .ref (v 2), .ref (v 3), .ref (v 4), .int 0])), (u 2, .inr (1, [.ref (u 0), .ref (u 1), .int 0, .int 0, .int 0, .int (-1)])), (u 4, .inr (0, [.ref (u 1), .ref (w 1), .ref (w 2), .ref (w 3), .ref (w 4), .ref (w 5), .ref (w 6), .ref (w 7), .int 0, .int 0, .int 0, .int 0, .int 0, .int 0, .int 0, .int 0])), (rf 2, .inl ((cf 0), 60, .inl (fun _ => 0))), (rf 14, .inl ((cf 1), 400, .inl (fun _ => 0))), (rf 15, .inl ((cf 2), 400, .inl (fun _ => 0))), (rf 16, .inl ((cf 3), 400, .inl (fun _ => 0))), (rf 17, .inl ((cf 4), 400, .inl (fun _ => 0))), (oo, .inl (cL, 1, .inr (.inl (fun _ => 0))))]) (w1 := []) hP hD [10] [0, 1, 2, 3, 4, 5, 6, 7, 8, 9] rfl rfl (by decide) (by decide) hk1 hFc hP1 hD1
  have hK := (hK.sub (tys' := [(cA, .int), (cf 0, .int), (cf 1, .int), (cf 2, .int), (cf 3, .int), (cf 4, .int), (cL, .long)]) [0, 1, 2, 3, 4, 5, 6] rfl).app hK1
  generalize H1 = H at hP hS ⊢
  have hP : va_P (dC, dI) vwCl [(u 0, .inl (cA, 60, .inl (fun _ => 0))), (u 1, .inr (2, [.ref (v 0), .ref (v 1), .ref (v 2), .ref (v 3), .ref (v 4), .int 0])), (u 2, .inr (1, [.ref (u 0), .ref (u 1), .int 0, .int 0, .int 0, .int (-1)])), (u 4, .inr (0, [.ref (u 1), .ref (w 1), .ref (w 2), .ref (w 3), .ref (w 4), .ref (w 5), .ref (w 6), .ref (w 7), .int 0, .int 0, .int 0, .int 0, .int 0, .int 0, .int 0, .int 0])), (rf 2, .inl ((cf 0), 60, .inl (fun _ => 0))), (rf 14, .inl ((cf 1), 400, .inl (fun _ => 0))), (rf 15, .inl ((cf 2), 400, .inl (fun _ => 0))), (rf 16, .inl ((cf 3), 400, .inl (fun _ => 0))), (rf 17, .inl ((cf 4), 400, .inl (fun _ => 0))), (oo, .inl (cL, 1, .inr (.inl (fun _ => 0))))] H := hP
  have hD : va_D (fun q : Nat => s.heap.size ≤ q) [(u 0, .inl (cA, 60, .inl (fun _ => 0))), (u 1, .inr (2, [.ref (v 0), .ref (v 1), .ref (v 2), .ref (v 3), .ref (v 4), .int 0])), (u 2, .inr (1, [.ref (u 0), .ref (u 1), .int 0, .int 0, .int 0, .int (-1)])), (u 4, .inr (0, [.ref (u 1), .ref (w 1), .ref (w 2), .ref (w 3), .ref (w 4), .ref (w 5), .ref (w 6), .ref (w 7), .int 0, .int 0, .int 0, .int 0, .int 0, .int 0, .int 0, .int 0])), (rf 2, .inl ((cf 0), 60, .inl (fun _ => 0))), (rf 14, .inl ((cf 1), 400, .inl (fun _ => 0))), (rf 15, .inl ((cf 2), 400, .inl (fun _ => 0))), (rf 16, .inl ((cf 3), 400, .inl (fun _ => 0))), (rf 17, .inl ((cf 4), 400, .inl (fun _ => 0))), (oo, .inl (cL, 1, .inr (.inl (fun _ => 0))))] := hD
  have hK : va_K (dC, dI) vwCl [(cA, .int), (cf 0, .int), (cf 1, .int), (cf 2, .int), (cf 3, .int), (cf 4, .int), (cL, .long)] s := hK
  refine lv_iload hx hb dL_law_220 (lv_at hl 1 rfl) ?_
  refine lv_icmp_eq (tgt := 227) hx hb dL_law_222 (by decide) (fun _ => ?_) (fun c9 => absurd c9 (by decide))
  refine lv_iload hx hb dL_law_227 (lv_at hl 1 rfl) ?_
  refine lv_if_ne (tgt := 244) hx hb dL_law_229 (by decide) (fun _ => ?_) (fun c9 => absurd c9 (by decide))
  refine lv_goto (tgt := 490) hx hb dL_law_244 (by decide) ?_
  exact law_end C0 _ _ hS (by decide) (by decide) ls (lv_sub hl [6, 2] rfl)
set_option maxHeartbeats 4000000 in
set_option maxRecDepth 100000 in
theorem law_run {p : Program} {l : Launch} {e : Env} {s : State} {m : MethodId} {below : List Frame} {meth : Method} {c : Code} (hl9 : l.stackTraces = false) {b : Nat} {xs : Nat → Int32} (C0 : lw_At p s m meth c b 2 xs) (dC : Nat → ClassId) (dI : Nat → Nat → Nat) (xx mm oo : Nat) (u v w : Nat → Nat) (cA : ClassId) (rf : Nat → Nat) (cf : Nat → ClassId) (cL : ClassId) (t : Int32) (hp : xs (1 : Int32).toNatClampNeg = t) (H : Heap) (locs : List Loc) (hK : va_K (dC, dI) vwCl [(cA, .int), (cf 0, .int), (cf 1, .int), (cf 2, .int), (cf 3, .int), (cf 4, .int), (cL, .long)] s) (hP : va_P (dC, dI) vwCl [(xx, .inr (6, CO u 0 0 0)), (u 0, .inl (cA, 60, .inl (fun _ => 0))), (u 1, .inr (2, [.ref (v 0), .ref (v 1), .ref (v 2), .ref (v 3), .ref (v 4), .int 0])), (u 2, .inr (1, [.ref (u 0), .ref (u 1), .int 0, .int 0, .int 0, .int (-1)])), (u 4, .inr (0, [.ref (u 1), .ref (w 1), .ref (w 2), .ref (w 3), .ref (w 4), .ref (w 5), .ref (w 6), .ref (w 7), .int 0, .int 0, .int 0, .int 0, .int 0, .int 0, .int 0, .int 0])), (mm, .inr (7, MO rf 0 0 0 0 0)), (rf 2, .inl ((cf 0), 60, .inl (fun _ => 0))), (rf 14, .inl ((cf 1), 400, .inl (fun _ => 0))), (rf 15, .inl ((cf 2), 400, .inl (fun _ => 0))), (rf 16, .inl ((cf 3), 400, .inl (fun _ => 0))), (rf 17, .inl ((cf 4), 400, .inl (fun _ => 0))), (oo, .inl (cL, 1, .inr (.inl (fun _ => 0))))] H) (hD : va_D (fun q : Nat => s.heap.size ≤ q) [(xx, .inr (6, CO u 0 0 0)), (u 0, .inl (cA, 60, .inl (fun _ => 0))), (u 1, .inr (2, [.ref (v 0), .ref (v 1), .ref (v 2), .ref (v 3), .ref (v 4), .int 0])), (u 2, .inr (1, [.ref (u 0), .ref (u 1), .int 0, .int 0, .int 0, .int (-1)])), (u 4, .inr (0, [.ref (u 1), .ref (w 1), .ref (w 2), .ref (w 3), .ref (w 4), .ref (w 5), .ref (w 6), .ref (w 7), .int 0, .int 0, .int 0, .int 0, .int 0, .int 0, .int 0, .int 0])), (mm, .inr (7, MO rf 0 0 0 0 0)), (rf 2, .inl ((cf 0), 60, .inl (fun _ => 0))), (rf 14, .inl ((cf 1), 400, .inl (fun _ => 0))), (rf 15, .inl ((cf 2), 400, .inl (fun _ => 0))), (rf 16, .inl ((cf 3), 400, .inl (fun _ => 0))), (rf 17, .inl ((cf 4), 400, .inl (fun _ => 0))), (oo, .inl (cL, 1, .inr (.inl (fun _ => 0))))]) (hS : va_S (fun q : Nat => s.heap.size ≤ q) s.heap H locs) (ls : Array Slot) (hl : lv_has ls 7 [(4, .int 0), (3, .ref oo), (2, .ref mm), (1, .ref xx), (0, .ref b)]) : W p l e room_1 s m #[Value.ref b] below meth c H locs 71 29142 (lw_Z below #[Value.ref b] s) (F0 m 247 ls []) := by
  obtain ⟨hx, hb, hr, hml, hown, hts, hX, hbl, hlocks, hgv⟩ := id C0
  have hown : s.vm.findClass RL = some m.cls := hown
  have hB : ∀ w ∈ BG, w.before #[Value.ref b] s = true := fun w h => hts w (BG_tb w h)
  have hA : ∀ q : Nat, s.heap.size ≤ q → (fun q : Nat => s.heap.size ≤ q) q := fun _ h => h
  have hbA : ¬ (fun q : Nat => s.heap.size ≤ q) b := Nat.not_le.mpr hbl
  obtain ⟨sa, hE0⟩ := xn_109 C0
  have hE := XN.kept hE0 hS.2.1
  refine lv_aload_n hx hb dL_law_247 rfl (lv_at hl 3 rfl) ?_
  refine lv_aload_n hx hb dL_law_248 rfl (lv_at hl 4 rfl) ?_
  refine lv_iload hx hb dL_law_249 (lv_at hl 0 rfl) ?_
  refine lv_iconst (v := 1) hx hb dL_law_251 (by decide) ?_
  refine lv_iadd hx hb dL_law_252 ?_
  rw [show (0 : Int32) + 1 = 1 by decide]
  refine va_sld hx hb hX hbl hbA hS (i := 1) (by rw [vp_in_iff]; decide) dL_law_253 ?_
  rw [hp]
  refine lv_aload_n hx hb dL_law_254 rfl (lv_at hl 1 rfl) ?_
  have hPc := hP.sub (ws' := [(xx, .inr (6, CO u 0 0 0))]) [0] rfl
  have hDc := hD.sub (ws' := [(xx, .inr (6, CO u 0 0 0))]) [0] (by decide) rfl
  have hKc := hK.sub (tys' := []) [] rfl
  have hFc := va_free (wc := [(xx, .inr (6, CO u 0 0 0))]) hD hS hA [0] rfl
  refine va_calli (vx_runSW (As := [.ref xx, .int t, .ref oo]) (rest := []) ⟨hx, hb, hml, hown, hB⟩ (cl_run l hl9 dC dI xx u t oo sa H.size) (vx_cwSW 3 hB (bgW bg330 bg331 bg395 bg332) rfl rfl rfl (by decide +kernel) ⟨Nat.le_of_ble_eq_true rfl, Nat.le_of_ble_eq_true rfl⟩) ⟨fun a U g mk q => by obtain ⟨q0, q1, qP, qK, qD, qE⟩ := q; exact ⟨q0, q1, qP, va_K.moved (u := U) (U := U.calling g mk a) (Vm.Alike.refl U.vm) qK, qD, XN.call qE⟩, fun U hU hW => ⟨rfl, by rw [hU], by rw [hU]; exact hPc, va_K.moved hW.alike hKc, hDc.weaken (fun _ _ _ _ => trivial), (by rw [hU]; exact XN.go hW hFc hE)⟩⟩ rfl rfl hl.1 rfl (lv_room (Nat.le_of_ble_eq_true rfl)) dL_law_255 ⟨Nat.le_of_ble_eq_true rfl, Nat.le_of_ble_eq_true rfl⟩) hS (fun q _ h => hFc q h) hFc (fun r9 u9 t9 H1 locs ht9 hvm hw hB1 hz1 hk1 hS => ?_)
  try dsimp only at hB1 hw
  obtain ⟨hP1, hK1, hD1⟩ := hB1
  rw [ht9] at hP1
  have hK1 := va_K.moved hvm.symm hK1
  obtain rfl := hw
  obtain ⟨hP, hD⟩ := va_join (wr := [(u 0, .inl (cA, 60, .inl (fun _ => 0))), (u 1, .inr (2, [.ref (v 0), .ref (v 1), .ref (v 2), .ref (v 3), .ref (v 4), .int 0])), (u 2, .inr (1, [.ref (u 0), .ref (u 1), .int 0, .int 0, .int 0, .int (-1)])), (u 4, .inr (0, [.ref (u 1), .ref (w 1), .ref (w 2), .ref (w 3), .ref (w 4), .ref (w 5), .ref (w 6), .ref (w 7), .int 0, .int 0, .int 0, .int 0, .int 0, .int 0, .int 0, .int 0])), (mm, .inr (7, MO rf 0 0 0 0 0)), (rf 2, .inl ((cf 0), 60, .inl (fun _ => 0))), (rf 14, .inl ((cf 1), 400, .inl (fun _ => 0))), (rf 15, .inl ((cf 2), 400, .inl (fun _ => 0))), (rf 16, .inl ((cf 3), 400, .inl (fun _ => 0))), (rf 17, .inl ((cf 4), 400, .inl (fun _ => 0))), (oo, .inl (cL, 1, .inr (.inl (fun _ => 0))))]) (w1 := []) hP hD [0] [1, 2, 3, 4, 5, 6, 7, 8, 9, 10, 11] rfl rfl (by decide) (by decide) hk1 hFc hP1 hD1
  have hK := (hK.sub (tys' := [(cA, .int), (cf 0, .int), (cf 1, .int), (cf 2, .int), (cf 3, .int), (cf 4, .int), (cL, .long)]) [0, 1, 2, 3, 4, 5, 6] rfl).app hK1
  generalize H1 = H at hP hS ⊢
  have hP : va_P (dC, dI) vwCl [(u 0, .inl (cA, 60, .inl (fun _ => 0))), (u 1, .inr (2, [.ref (v 0), .ref (v 1), .ref (v 2), .ref (v 3), .ref (v 4), .int 0])), (u 2, .inr (1, [.ref (u 0), .ref (u 1), .int 0, .int 0, .int 0, .int (-1)])), (u 4, .inr (0, [.ref (u 1), .ref (w 1), .ref (w 2), .ref (w 3), .ref (w 4), .ref (w 5), .ref (w 6), .ref (w 7), .int 0, .int 0, .int 0, .int 0, .int 0, .int 0, .int 0, .int 0])), (mm, .inr (7, MO rf 0 0 0 0 0)), (rf 2, .inl ((cf 0), 60, .inl (fun _ => 0))), (rf 14, .inl ((cf 1), 400, .inl (fun _ => 0))), (rf 15, .inl ((cf 2), 400, .inl (fun _ => 0))), (rf 16, .inl ((cf 3), 400, .inl (fun _ => 0))), (rf 17, .inl ((cf 4), 400, .inl (fun _ => 0))), (oo, .inl (cL, 1, .inr (.inl (fun _ => 0))))] H := hP
  have hD : va_D (fun q : Nat => s.heap.size ≤ q) [(u 0, .inl (cA, 60, .inl (fun _ => 0))), (u 1, .inr (2, [.ref (v 0), .ref (v 1), .ref (v 2), .ref (v 3), .ref (v 4), .int 0])), (u 2, .inr (1, [.ref (u 0), .ref (u 1), .int 0, .int 0, .int 0, .int (-1)])), (u 4, .inr (0, [.ref (u 1), .ref (w 1), .ref (w 2), .ref (w 3), .ref (w 4), .ref (w 5), .ref (w 6), .ref (w 7), .int 0, .int 0, .int 0, .int 0, .int 0, .int 0, .int 0, .int 0])), (mm, .inr (7, MO rf 0 0 0 0 0)), (rf 2, .inl ((cf 0), 60, .inl (fun _ => 0))), (rf 14, .inl ((cf 1), 400, .inl (fun _ => 0))), (rf 15, .inl ((cf 2), 400, .inl (fun _ => 0))), (rf 16, .inl ((cf 3), 400, .inl (fun _ => 0))), (rf 17, .inl ((cf 4), 400, .inl (fun _ => 0))), (oo, .inl (cL, 1, .inr (.inl (fun _ => 0))))] := hD
  have hK : va_K (dC, dI) vwCl [(cA, .int), (cf 0, .int), (cf 1, .int), (cf 2, .int), (cf 3, .int), (cf 4, .int), (cL, .long)] s := hK
  refine W.widen (k := 72) (n := 29148) (by decide) (by decide) ?_
  refine lv_istore (lv' := [(5, .int 1), (4, .int 0), (3, .ref oo), (2, .ref mm), (1, .ref xx), (0, .ref b)]) hx hb dL_law_258 hl (by decide) rfl (fun ls hl => ?_)
  refine lv_aload_n hx hb dL_law_260 rfl (lv_at hl 3 rfl) ?_
  refine lv_aload_n hx hb dL_law_261 rfl (lv_at hl 5 rfl) ?_
  refine lv_iload hx hb dL_law_262 (lv_at hl 1 rfl) ?_
  refine lv_iconst (v := 1) hx hb dL_law_264 (by decide) ?_
  refine lv_iadd hx hb dL_law_265 ?_
  rw [show (0 : Int32) + 1 = 1 by decide]
  refine va_sld hx hb hX hbl hbA hS (i := 1) (by rw [vp_in_iff]; decide) dL_law_266 ?_
  rw [hp]
  have hPc := hP.sub (ws' := [(mm, .inr (7, MO rf 0 0 0 0 0))]) [4] rfl
  have hDc := hD.sub (ws' := [(mm, .inr (7, MO rf 0 0 0 0 0))]) [4] (by decide) rfl
  have hKc := hK.sub (tys' := []) [] rfl
  have hFc := va_free (wc := [(mm, .inr (7, MO rf 0 0 0 0 0))]) hD hS hA [4] rfl
  refine va_calli (va_runV (As := [.int t]) (rest := []) ⟨hx, hb, hml, hown, hB⟩ (c_mrun l dC dI mm rf t H.size) (cwV 1 hB (bgV bg333 bg334 bg335 bg225 bg336) rfl rfl rfl (by decide +kernel) ⟨Nat.le_of_ble_eq_true rfl, Nat.le_of_ble_eq_true rfl⟩) ⟨fun a U g mk q => by obtain ⟨q0, q1, qP, qK, qD⟩ := q; exact ⟨q0, q1, qP, va_K.moved (u := U) (U := U.calling g mk a) (Vm.Alike.refl U.vm) qK, qD⟩, va_recv hKc hPc (ci := 7) (q0 := 0) rfl rfl, fun U hU hW => ⟨rfl, by rw [hU], by rw [hU]; exact hPc, va_K.moved hW.alike hKc, hDc.weaken (fun _ _ _ _ => trivial)⟩⟩ rfl rfl hl.1 rfl (lv_room (Nat.le_of_ble_eq_true rfl)) dL_law_267 ⟨Nat.le_of_ble_eq_true rfl, Nat.le_of_ble_eq_true rfl⟩) hS (fun q _ h => hFc q h) hFc (fun r9 u9 t9 H1 locs ht9 hvm hw hB1 hz1 hk1 hS => ?_)
  obtain ⟨fs_1, rfl⟩ : ∃ z, z = u9 := ⟨_, rfl⟩
  try dsimp only at hB1 hw
  obtain ⟨hP1, hK1, hD1⟩ := hB1
  rw [ht9] at hP1
  have hK1 := va_K.moved hvm.symm hK1
  obtain ⟨rfl, w_2⟩ := hw
  obtain ⟨hP, hD⟩ := va_join (wr := [(u 0, .inl (cA, 60, .inl (fun _ => 0))), (u 1, .inr (2, [.ref (v 0), .ref (v 1), .ref (v 2), .ref (v 3), .ref (v 4), .int 0])), (u 2, .inr (1, [.ref (u 0), .ref (u 1), .int 0, .int 0, .int 0, .int (-1)])), (u 4, .inr (0, [.ref (u 1), .ref (w 1), .ref (w 2), .ref (w 3), .ref (w 4), .ref (w 5), .ref (w 6), .ref (w 7), .int 0, .int 0, .int 0, .int 0, .int 0, .int 0, .int 0, .int 0])), (rf 2, .inl ((cf 0), 60, .inl (fun _ => 0))), (rf 14, .inl ((cf 1), 400, .inl (fun _ => 0))), (rf 15, .inl ((cf 2), 400, .inl (fun _ => 0))), (rf 16, .inl ((cf 3), 400, .inl (fun _ => 0))), (rf 17, .inl ((cf 4), 400, .inl (fun _ => 0))), (oo, .inl (cL, 1, .inr (.inl (fun _ => 0))))]) (w1 := [(mm, .inr (7, fs_1))]) hP hD [4] [0, 1, 2, 3, 5, 6, 7, 8, 9, 10] rfl rfl (by decide) (by decide) hk1 hFc hP1 hD1
  have hK := (hK.sub (tys' := [(cA, .int), (cf 0, .int), (cf 1, .int), (cf 2, .int), (cf 3, .int), (cf 4, .int), (cL, .long)]) [0, 1, 2, 3, 4, 5, 6] rfl).app hK1
  generalize H1 = H at hP hS ⊢
  have hP : va_P (dC, dI) vwCl [(u 0, .inl (cA, 60, .inl (fun _ => 0))), (u 1, .inr (2, [.ref (v 0), .ref (v 1), .ref (v 2), .ref (v 3), .ref (v 4), .int 0])), (u 2, .inr (1, [.ref (u 0), .ref (u 1), .int 0, .int 0, .int 0, .int (-1)])), (u 4, .inr (0, [.ref (u 1), .ref (w 1), .ref (w 2), .ref (w 3), .ref (w 4), .ref (w 5), .ref (w 6), .ref (w 7), .int 0, .int 0, .int 0, .int 0, .int 0, .int 0, .int 0, .int 0])), (rf 2, .inl ((cf 0), 60, .inl (fun _ => 0))), (rf 14, .inl ((cf 1), 400, .inl (fun _ => 0))), (rf 15, .inl ((cf 2), 400, .inl (fun _ => 0))), (rf 16, .inl ((cf 3), 400, .inl (fun _ => 0))), (rf 17, .inl ((cf 4), 400, .inl (fun _ => 0))), (oo, .inl (cL, 1, .inr (.inl (fun _ => 0)))), (mm, .inr (7, fs_1))] H := hP
  have hD : va_D (fun q : Nat => s.heap.size ≤ q) [(u 0, .inl (cA, 60, .inl (fun _ => 0))), (u 1, .inr (2, [.ref (v 0), .ref (v 1), .ref (v 2), .ref (v 3), .ref (v 4), .int 0])), (u 2, .inr (1, [.ref (u 0), .ref (u 1), .int 0, .int 0, .int 0, .int (-1)])), (u 4, .inr (0, [.ref (u 1), .ref (w 1), .ref (w 2), .ref (w 3), .ref (w 4), .ref (w 5), .ref (w 6), .ref (w 7), .int 0, .int 0, .int 0, .int 0, .int 0, .int 0, .int 0, .int 0])), (rf 2, .inl ((cf 0), 60, .inl (fun _ => 0))), (rf 14, .inl ((cf 1), 400, .inl (fun _ => 0))), (rf 15, .inl ((cf 2), 400, .inl (fun _ => 0))), (rf 16, .inl ((cf 3), 400, .inl (fun _ => 0))), (rf 17, .inl ((cf 4), 400, .inl (fun _ => 0))), (oo, .inl (cL, 1, .inr (.inl (fun _ => 0)))), (mm, .inr (7, fs_1))] := hD
  have hK : va_K (dC, dI) vwCl [(cA, .int), (cf 0, .int), (cf 1, .int), (cf 2, .int), (cf 3, .int), (cf 4, .int), (cL, .long)] s := hK
  refine lv_istore (lv' := [(6, .int 0), (5, .int 1), (4, .int 0), (3, .ref oo), (2, .ref mm), (1, .ref xx), (0, .ref b)]) hx hb dL_law_270 hl (by decide) rfl (fun ls hl => ?_)
  refine lv_aload_n hx hb dL_law_272 rfl (lv_at hl 4 rfl) ?_
  have hPc := hP.sub (ws' := [(mm, .inr (7, fs_1))]) [10] rfl
  have hDc := hD.sub (ws' := [(mm, .inr (7, fs_1))]) [10] (by decide) rfl
  have hKc := hK.sub (tys' := []) [] rfl
  have hFc := va_free (wc := [(mm, .inr (7, fs_1))]) hD hS hA [10] rfl
  refine va_calli (va_runV (As := []) (rest := []) ⟨hx, hb, hml, hown, hB⟩ (c_thrown1 l dC dI mm fs_1 H.size w_2) (cwV 0 hB (bgV bg312 bg313 bg314 bg225 bg315) rfl rfl rfl (by decide +kernel) ⟨Nat.le_of_ble_eq_true rfl, Nat.le_of_ble_eq_true rfl⟩) ⟨fun a U g mk q => by obtain ⟨q0, q1, qP, qK, qD⟩ := q; exact ⟨q0, q1, qP, va_K.moved (u := U) (U := U.calling g mk a) (Vm.Alike.refl U.vm) qK, qD⟩, va_recv hKc hPc (ci := 7) (q0 := 0) rfl rfl, fun U hU hW => ⟨rfl, by rw [hU], by rw [hU]; exact hPc, va_K.moved hW.alike hKc, hDc.weaken (fun _ _ _ _ => trivial)⟩⟩ rfl rfl hl.1 rfl (lv_room (Nat.le_of_ble_eq_true rfl)) dL_law_273 ⟨Nat.le_of_ble_eq_true rfl, Nat.le_of_ble_eq_true rfl⟩) hS (fun q _ h => hFc q h) hFc (fun r9 u9 t9 H1 locs ht9 hvm hw hB1 hz1 hk1 hS => ?_)
  try dsimp only at hB1 hw
  obtain ⟨hP1, hK1, hD1⟩ := hB1
  rw [ht9] at hP1
  have hK1 := va_K.moved hvm.symm hK1
  obtain rfl := hw
  obtain ⟨hP, hD⟩ := va_join (wr := [(u 0, .inl (cA, 60, .inl (fun _ => 0))), (u 1, .inr (2, [.ref (v 0), .ref (v 1), .ref (v 2), .ref (v 3), .ref (v 4), .int 0])), (u 2, .inr (1, [.ref (u 0), .ref (u 1), .int 0, .int 0, .int 0, .int (-1)])), (u 4, .inr (0, [.ref (u 1), .ref (w 1), .ref (w 2), .ref (w 3), .ref (w 4), .ref (w 5), .ref (w 6), .ref (w 7), .int 0, .int 0, .int 0, .int 0, .int 0, .int 0, .int 0, .int 0])), (rf 2, .inl ((cf 0), 60, .inl (fun _ => 0))), (rf 14, .inl ((cf 1), 400, .inl (fun _ => 0))), (rf 15, .inl ((cf 2), 400, .inl (fun _ => 0))), (rf 16, .inl ((cf 3), 400, .inl (fun _ => 0))), (rf 17, .inl ((cf 4), 400, .inl (fun _ => 0))), (oo, .inl (cL, 1, .inr (.inl (fun _ => 0))))]) (w1 := []) hP hD [10] [0, 1, 2, 3, 4, 5, 6, 7, 8, 9] rfl rfl (by decide) (by decide) hk1 hFc hP1 hD1
  have hK := (hK.sub (tys' := [(cA, .int), (cf 0, .int), (cf 1, .int), (cf 2, .int), (cf 3, .int), (cf 4, .int), (cL, .long)]) [0, 1, 2, 3, 4, 5, 6] rfl).app hK1
  generalize H1 = H at hP hS ⊢
  have hP : va_P (dC, dI) vwCl [(u 0, .inl (cA, 60, .inl (fun _ => 0))), (u 1, .inr (2, [.ref (v 0), .ref (v 1), .ref (v 2), .ref (v 3), .ref (v 4), .int 0])), (u 2, .inr (1, [.ref (u 0), .ref (u 1), .int 0, .int 0, .int 0, .int (-1)])), (u 4, .inr (0, [.ref (u 1), .ref (w 1), .ref (w 2), .ref (w 3), .ref (w 4), .ref (w 5), .ref (w 6), .ref (w 7), .int 0, .int 0, .int 0, .int 0, .int 0, .int 0, .int 0, .int 0])), (rf 2, .inl ((cf 0), 60, .inl (fun _ => 0))), (rf 14, .inl ((cf 1), 400, .inl (fun _ => 0))), (rf 15, .inl ((cf 2), 400, .inl (fun _ => 0))), (rf 16, .inl ((cf 3), 400, .inl (fun _ => 0))), (rf 17, .inl ((cf 4), 400, .inl (fun _ => 0))), (oo, .inl (cL, 1, .inr (.inl (fun _ => 0))))] H := hP
  have hD : va_D (fun q : Nat => s.heap.size ≤ q) [(u 0, .inl (cA, 60, .inl (fun _ => 0))), (u 1, .inr (2, [.ref (v 0), .ref (v 1), .ref (v 2), .ref (v 3), .ref (v 4), .int 0])), (u 2, .inr (1, [.ref (u 0), .ref (u 1), .int 0, .int 0, .int 0, .int (-1)])), (u 4, .inr (0, [.ref (u 1), .ref (w 1), .ref (w 2), .ref (w 3), .ref (w 4), .ref (w 5), .ref (w 6), .ref (w 7), .int 0, .int 0, .int 0, .int 0, .int 0, .int 0, .int 0, .int 0])), (rf 2, .inl ((cf 0), 60, .inl (fun _ => 0))), (rf 14, .inl ((cf 1), 400, .inl (fun _ => 0))), (rf 15, .inl ((cf 2), 400, .inl (fun _ => 0))), (rf 16, .inl ((cf 3), 400, .inl (fun _ => 0))), (rf 17, .inl ((cf 4), 400, .inl (fun _ => 0))), (oo, .inl (cL, 1, .inr (.inl (fun _ => 0))))] := hD
  have hK : va_K (dC, dI) vwCl [(cA, .int), (cf 0, .int), (cf 1, .int), (cf 2, .int), (cf 3, .int), (cf 4, .int), (cL, .long)] s := hK
  refine lv_iload hx hb dL_law_276 (lv_at hl 1 rfl) ?_
  refine lv_icmp_eq (tgt := 283) hx hb dL_law_278 (by decide) (fun _ => ?_) (fun c9 => absurd c9 (by decide))
  refine lv_iload hx hb dL_law_283 (lv_at hl 1 rfl) ?_
  refine lv_if_ne (tgt := 300) hx hb dL_law_285 (by decide) (fun _ => ?_) (fun c9 => absurd c9 (by decide))
  refine lv_goto (tgt := 490) hx hb dL_law_300 (by decide) ?_
  exact law_end C0 _ _ hS (by decide) (by decide) ls (lv_sub hl [6, 2] rfl)
