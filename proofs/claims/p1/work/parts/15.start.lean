theorem used_out {t : Int32} (h0 : ¬ t = 0) (h1 : ¬ t = 1) (h2 : ¬ t = 2) : t.toInt < 0 ∨ 2 < t.toInt := by
  have e0 : ¬ t.toInt = 0 := fun q => h0 (Int32.toInt_inj.mp (by rw [q]; decide))
  have e1 : ¬ t.toInt = 1 := fun q => h1 (Int32.toInt_inj.mp (by rw [q]; decide))
  have e2 : ¬ t.toInt = 2 := fun q => h2 (Int32.toInt_inj.mp (by rw [q]; decide))
  omega
set_option maxHeartbeats 4000000 in
set_option maxRecDepth 100000 in
/-- the law, from its entry -/
theorem whole_start {p : Program} {l : Launch} {e : Env} {s : State} {m : MethodId} {below : List Frame} {meth : Method} {c : Code} (hl9 : l.stackTraces = false) {b L : Nat} {xs : Nat → Int32} (hL : L ≤ 2) (C0 : lw_At p s m meth c b L xs) : W p l e room_1 s m #[Value.ref b] below meth c s.heap [] 0 0 (lw_Z below #[Value.ref b] s) (entryFrame m ([Value.ref b] : List Value).toArray 7) := by
  obtain ⟨hx, hb, hr, hml, hown, hts, hX, hbl, hlocks, hgv⟩ := id C0
  have hown : s.vm.findClass RL = some m.cls := hown
  have hB : ∀ w ∈ BG, w.before #[Value.ref b] s = true := fun w h => hts w (BG_tb w h)
  have hA : ∀ q : Nat, s.heap.size ≤ q → (fun q : Nat => s.heap.size ≤ q) q := fun _ h => h
  have hbA : ¬ (fun q : Nat => s.heap.size ≤ q) b := Nat.not_le.mpr hbl
  obtain ⟨k0, iS0, hKn0⟩ := u_known (C := RX0) (T := TX0) (N := 16) (n := 16) hB inB0 (hB _ bg76)
  obtain ⟨k1, iS1, hKn1⟩ := u_known (C := RX1) (T := TX1) (N := 6) (n := 6) hB inB1 (hB _ bg62)
  obtain ⟨k2, iS2, hKn2⟩ := u_known (C := RX2) (T := TX2) (N := 6) (n := 6) hB inB2 (hB _ bg55)
  obtain ⟨k3, iS3, hKn3⟩ := u_known (C := RX3) (T := TX3) (N := 6) (n := 6) hB inB3 (hB _ bg69)
  obtain ⟨k4, iS4, hKn4⟩ := u_known (C := RX4) (T := TX4) (N := 12) (n := 12) hB inB4 (hB _ bg32)
  obtain ⟨k5, iS5, hKn5⟩ := u_known (C := RX5) (T := TX5) (N := 2) (n := 2) hB inB5 (hB _ bg24)
  obtain ⟨k6, iS6, hKn6⟩ := u_known (C := RX6) (T := TX6) (N := 10) (n := 10) hB inB6 (hB _ bg393)
  obtain ⟨k7, iS7, hKn7⟩ := u_known (C := RX7) (T := TX7) (N := 55) (n := 55) hB inB7 (hB _ bg394)
  obtain ⟨dC, dI, hKc⟩ : ∃ (dC : Nat → ClassId) (dI : Nat → Nat → Nat), ∀ (k : Nat) (q : vw_C), vwCl[k]? = some q → u_Kn s q.1 q.2.1 q.2.2 (dC k) (dI k) := by
    refine ⟨fun j => if j = 0 then k0 else if j = 1 then k1 else if j = 2 then k2 else if j = 3 then k3 else if j = 4 then k4 else if j = 5 then k5 else if j = 6 then k6 else k7, fun j => if j = 0 then iS0 else if j = 1 then iS1 else if j = 2 then iS2 else if j = 3 then iS3 else if j = 4 then iS4 else if j = 5 then iS5 else if j = 6 then iS6 else iS7, ?_⟩
    intro k q hq
    match k, hq with
    | 0, hq => cases hq; exact hKn0
    | 1, hq => cases hq; exact hKn1
    | 2, hq => cases hq; exact hKn2
    | 3, hq => cases hq; exact hKn3
    | 4, hq => cases hq; exact hKn4
    | 5, hq => cases hq; exact hKn5
    | 6, hq => cases hq; exact hKn6
    | 7, hq => cases hq; exact hKn7
    | k + 8, hq => simp [vwCl] at hq
  have hS : va_S (fun q : Nat => s.heap.size ≤ q) s.heap s.heap [] := va_S.rf
  have hK : va_K (dC, dI) vwCl [] s := ⟨hKc, fun k q h => by simp at h⟩
  have hP : va_P (dC, dI) vwCl [] s.heap := fun k q h => by simp at h
  have hD : va_D (fun q : Nat => s.heap.size ≤ q) [] := ⟨fun i j p q h => by simp at h, fun k q h => by simp at h⟩
  have hl := lv_entry ([.ref b]) (n := 7) (Nat.le_of_ble_eq_true rfl)
  rw [lg_entry_eq]
  generalize (lg_sl ([.ref b]) ++ List.replicate (7 - (lg_sl ([.ref b])).length) Slot.unset).toArray = ls at hl ⊢
  have hl : lv_has ls 7 [(0, .ref b)] := hl
  refine va_new (ci := 6) (fs := [.null, .null, .null, .null, .null, .null, .null, .int 0, .int 0, .int 0]) (C := RX6) (T := TX6) (N := 10) hx hb hB inB6 tyX6 tyX6_ok hown (hB _ bg391) (hB _ bg393) (hB _ bg89) hK hP hD hS hA rfl dfX6 (Nat.le_of_ble_eq_true rfl) (Nat.le_of_ble_eq_true rfl) dL_law_0 (fun q1 H hP hD hS => ?_)
  have hP : va_P (dC, dI) vwCl [(q1, .inr (6, [.null, .null, .null, .null, .null, .null, .null, .int 0, .int 0, .int 0]))] H := hP
  have hD : va_D (fun q : Nat => s.heap.size ≤ q) [(q1, .inr (6, [.null, .null, .null, .null, .null, .null, .null, .int 0, .int 0, .int 0]))] := hD
  refine W.widen (k := 1) (n := 10) (by decide) (by decide) ?_
  refine lv_dup hx hb dL_law_3 rfl ?_
  have hPc := hP.sub (ws' := [(q1, .inr (6, [.null, .null, .null, .null, .null, .null, .null, .int 0, .int 0, .int 0]))]) [0] rfl
  have hDc := hD.sub (ws' := [(q1, .inr (6, [.null, .null, .null, .null, .null, .null, .null, .int 0, .int 0, .int 0]))]) [0] (by decide) rfl
  have hKc := hK.sub (tys' := []) [] rfl
  have hFc := va_free (wc := [(q1, .inr (6, [.null, .null, .null, .null, .null, .null, .null, .int 0, .int 0, .int 0]))]) hD hS hA [0] rfl
  refine va_callv (va_runI (As := []) (rest := [.ref q1]) ⟨hx, hb, hml, hown, hB⟩ (c_TinyMl_init l dC dI q1 H.size) (cwI 0 hB (bgI bg301) rfl rfl rfl (hB _ bg89) (hB _ bg299) (hB _ bg300) rfl (by decide +kernel) ⟨Nat.le_of_ble_eq_true rfl, Nat.le_of_ble_eq_true rfl⟩) ⟨fun a U g mk q => by obtain ⟨q0, q1, qP, qK, qD⟩ := q; exact ⟨q0, q1, qP, va_K.moved (u := U) (U := U.calling g mk a) (Vm.Alike.refl U.vm) qK, qD⟩, fun U hU hW => ⟨rfl, by rw [hU], by rw [hU]; exact hPc, va_K.moved hW.alike hKc, hDc.weaken (fun _ _ _ _ => trivial)⟩⟩ rfl rfl hl.1 rfl (lv_room (Nat.le_of_ble_eq_true rfl)) dL_law_4 ⟨Nat.le_of_ble_eq_true rfl, Nat.le_of_ble_eq_true rfl⟩) hS (fun q _ h => hFc q h) hFc (fun u9 t9 H1 locs ht9 hvm hw hB1 hz1 hk1 hS => ?_)
  obtain ⟨u_2, v_3, w_4, cA_5⟩ := u9
  try dsimp only at hB1 hw
  obtain ⟨hP1, hK1, hD1⟩ := hB1
  rw [ht9] at hP1
  have hK1 := va_K.moved hvm.symm hK1
  obtain ⟨hP, hD⟩ := va_join (wr := []) (w1 := [(q1, .inr (6, CO u_2 0 0 0)), (u_2 0, .inl (cA_5, 60, .inl (fun _ => 0))), (u_2 1, .inr (2, [.ref (v_3 0), .ref (v_3 1), .ref (v_3 2), .ref (v_3 3), .ref (v_3 4), .int 0])), (u_2 2, .inr (1, [.ref (u_2 0), .ref (u_2 1), .int 0, .int 0, .int 0, .int (-1)])), (u_2 4, .inr (0, [.ref (u_2 1), .ref (w_4 1), .ref (w_4 2), .ref (w_4 3), .ref (w_4 4), .ref (w_4 5), .ref (w_4 6), .ref (w_4 7), .int 0, .int 0, .int 0, .int 0, .int 0, .int 0, .int 0, .int 0]))]) hP hD [0] [] rfl rfl (by decide) (by decide) hk1 hFc hP1 hD1
  have hK := (hK.sub (tys' := []) [] rfl).app hK1
  generalize H1 = H at hP hS ⊢
  have hP : va_P (dC, dI) vwCl [(q1, .inr (6, CO u_2 0 0 0)), (u_2 0, .inl (cA_5, 60, .inl (fun _ => 0))), (u_2 1, .inr (2, [.ref (v_3 0), .ref (v_3 1), .ref (v_3 2), .ref (v_3 3), .ref (v_3 4), .int 0])), (u_2 2, .inr (1, [.ref (u_2 0), .ref (u_2 1), .int 0, .int 0, .int 0, .int (-1)])), (u_2 4, .inr (0, [.ref (u_2 1), .ref (w_4 1), .ref (w_4 2), .ref (w_4 3), .ref (w_4 4), .ref (w_4 5), .ref (w_4 6), .ref (w_4 7), .int 0, .int 0, .int 0, .int 0, .int 0, .int 0, .int 0, .int 0]))] H := hP
  have hD : va_D (fun q : Nat => s.heap.size ≤ q) [(q1, .inr (6, CO u_2 0 0 0)), (u_2 0, .inl (cA_5, 60, .inl (fun _ => 0))), (u_2 1, .inr (2, [.ref (v_3 0), .ref (v_3 1), .ref (v_3 2), .ref (v_3 3), .ref (v_3 4), .int 0])), (u_2 2, .inr (1, [.ref (u_2 0), .ref (u_2 1), .int 0, .int 0, .int 0, .int (-1)])), (u_2 4, .inr (0, [.ref (u_2 1), .ref (w_4 1), .ref (w_4 2), .ref (w_4 3), .ref (w_4 4), .ref (w_4 5), .ref (w_4 6), .ref (w_4 7), .int 0, .int 0, .int 0, .int 0, .int 0, .int 0, .int 0, .int 0]))] := hD
  have hK : va_K (dC, dI) vwCl [(cA_5, .int)] s := hK
  refine W.widen (k := 35) (n := 7312) (by decide) (by decide) ?_
  refine lv_astore_n (lv' := [(1, .ref q1), (0, .ref b)]) hx hb dL_law_7 rfl hl (by decide) rfl (fun ls hl => ?_)
  refine va_new (ci := 7) (fs := [.int 0, .int 0, .null, .int 0, .null, .null, .null, .null, .null, .null, .null, .null, .int 0, .int 0, .null, .null, .null, .null, .int 0, .null, .int 0, .int 0, .int 0, .null, .null, .null, .null, .int 0, .null, .null, .null, .int 0, .null, .null, .null, .int 0, .null, .null, .null, .null, .int 0, .null, .null, .int 0, .null, .null, .int 0, .int 0, .int 0, .int 0, .int 0, .null, .int 0, .null, .int 0]) (C := RX7) (T := TX7) (N := 55) hx hb hB inB7 tyX7 tyX7_ok hown (hB _ bg392) (hB _ bg394) (hB _ bg225) hK hP hD hS hA rfl dfX7 (Nat.le_of_ble_eq_true rfl) (Nat.le_of_ble_eq_true rfl) dL_law_8 (fun q6 H hP hD hS => ?_)
  have hP : va_P (dC, dI) vwCl [(q1, .inr (6, CO u_2 0 0 0)), (u_2 0, .inl (cA_5, 60, .inl (fun _ => 0))), (u_2 1, .inr (2, [.ref (v_3 0), .ref (v_3 1), .ref (v_3 2), .ref (v_3 3), .ref (v_3 4), .int 0])), (u_2 2, .inr (1, [.ref (u_2 0), .ref (u_2 1), .int 0, .int 0, .int 0, .int (-1)])), (u_2 4, .inr (0, [.ref (u_2 1), .ref (w_4 1), .ref (w_4 2), .ref (w_4 3), .ref (w_4 4), .ref (w_4 5), .ref (w_4 6), .ref (w_4 7), .int 0, .int 0, .int 0, .int 0, .int 0, .int 0, .int 0, .int 0])), (q6, .inr (7, [.int 0, .int 0, .null, .int 0, .null, .null, .null, .null, .null, .null, .null, .null, .int 0, .int 0, .null, .null, .null, .null, .int 0, .null, .int 0, .int 0, .int 0, .null, .null, .null, .null, .int 0, .null, .null, .null, .int 0, .null, .null, .null, .int 0, .null, .null, .null, .null, .int 0, .null, .null, .int 0, .null, .null, .int 0, .int 0, .int 0, .int 0, .int 0, .null, .int 0, .null, .int 0]))] H := hP
  have hD : va_D (fun q : Nat => s.heap.size ≤ q) [(q1, .inr (6, CO u_2 0 0 0)), (u_2 0, .inl (cA_5, 60, .inl (fun _ => 0))), (u_2 1, .inr (2, [.ref (v_3 0), .ref (v_3 1), .ref (v_3 2), .ref (v_3 3), .ref (v_3 4), .int 0])), (u_2 2, .inr (1, [.ref (u_2 0), .ref (u_2 1), .int 0, .int 0, .int 0, .int (-1)])), (u_2 4, .inr (0, [.ref (u_2 1), .ref (w_4 1), .ref (w_4 2), .ref (w_4 3), .ref (w_4 4), .ref (w_4 5), .ref (w_4 6), .ref (w_4 7), .int 0, .int 0, .int 0, .int 0, .int 0, .int 0, .int 0, .int 0])), (q6, .inr (7, [.int 0, .int 0, .null, .int 0, .null, .null, .null, .null, .null, .null, .null, .null, .int 0, .int 0, .null, .null, .null, .null, .int 0, .null, .int 0, .int 0, .int 0, .null, .null, .null, .null, .int 0, .null, .null, .null, .int 0, .null, .null, .null, .int 0, .null, .null, .null, .null, .int 0, .null, .null, .int 0, .null, .null, .int 0, .int 0, .int 0, .int 0, .int 0, .null, .int 0, .null, .int 0]))] := hD
  refine W.widen (k := 36) (n := 7367) (by decide) (by decide) ?_
  refine lv_dup hx hb dL_law_11 rfl ?_
  have hPc := hP.sub (ws' := [(q6, .inr (7, [.int 0, .int 0, .null, .int 0, .null, .null, .null, .null, .null, .null, .null, .null, .int 0, .int 0, .null, .null, .null, .null, .int 0, .null, .int 0, .int 0, .int 0, .null, .null, .null, .null, .int 0, .null, .null, .null, .int 0, .null, .null, .null, .int 0, .null, .null, .null, .null, .int 0, .null, .null, .int 0, .null, .null, .int 0, .int 0, .int 0, .int 0, .int 0, .null, .int 0, .null, .int 0]))]) [5] rfl
  have hDc := hD.sub (ws' := [(q6, .inr (7, [.int 0, .int 0, .null, .int 0, .null, .null, .null, .null, .null, .null, .null, .null, .int 0, .int 0, .null, .null, .null, .null, .int 0, .null, .int 0, .int 0, .int 0, .null, .null, .null, .null, .int 0, .null, .null, .null, .int 0, .null, .null, .null, .int 0, .null, .null, .null, .null, .int 0, .null, .null, .int 0, .null, .null, .int 0, .int 0, .int 0, .int 0, .int 0, .null, .int 0, .null, .int 0]))]) [5] (by decide) rfl
  have hKc := hK.sub (tys' := []) [] rfl
  have hFc := va_free (wc := [(q6, .inr (7, [.int 0, .int 0, .null, .int 0, .null, .null, .null, .null, .null, .null, .null, .null, .int 0, .int 0, .null, .null, .null, .null, .int 0, .null, .int 0, .int 0, .int 0, .null, .null, .null, .null, .int 0, .null, .null, .null, .int 0, .null, .null, .null, .int 0, .null, .null, .null, .null, .int 0, .null, .null, .int 0, .null, .null, .int 0, .int 0, .int 0, .int 0, .int 0, .null, .int 0, .null, .int 0]))]) hD hS hA [5] rfl
  refine va_callv (va_runI (As := []) (rest := [.ref q6]) ⟨hx, hb, hml, hown, hB⟩ (c_Model_init l dC dI q6 H.size) (cwI 0 hB (bgI bg304) rfl rfl rfl (hB _ bg225) (hB _ bg302) (hB _ bg303) rfl (by decide +kernel) ⟨Nat.le_of_ble_eq_true rfl, Nat.le_of_ble_eq_true rfl⟩) ⟨fun a U g mk q => by obtain ⟨q0, q1, qP, qK, qD⟩ := q; exact ⟨q0, q1, qP, va_K.moved (u := U) (U := U.calling g mk a) (Vm.Alike.refl U.vm) qK, qD⟩, fun U hU hW => ⟨rfl, by rw [hU], by rw [hU]; exact hPc, va_K.moved hW.alike hKc, hDc.weaken (fun _ _ _ _ => trivial)⟩⟩ rfl rfl hl.1 rfl (lv_room (Nat.le_of_ble_eq_true rfl)) dL_law_12 ⟨Nat.le_of_ble_eq_true rfl, Nat.le_of_ble_eq_true rfl⟩) hS (fun q _ h => hFc q h) hFc (fun u9 t9 H1 locs ht9 hvm hw hB1 hz1 hk1 hS => ?_)
  obtain ⟨rf_7, cf_8⟩ := u9
  try dsimp only at hB1 hw
  obtain ⟨hP1, hK1, hD1⟩ := hB1
  rw [ht9] at hP1
  have hK1 := va_K.moved hvm.symm hK1
  obtain ⟨hP, hD⟩ := va_join (wr := [(q1, .inr (6, CO u_2 0 0 0)), (u_2 0, .inl (cA_5, 60, .inl (fun _ => 0))), (u_2 1, .inr (2, [.ref (v_3 0), .ref (v_3 1), .ref (v_3 2), .ref (v_3 3), .ref (v_3 4), .int 0])), (u_2 2, .inr (1, [.ref (u_2 0), .ref (u_2 1), .int 0, .int 0, .int 0, .int (-1)])), (u_2 4, .inr (0, [.ref (u_2 1), .ref (w_4 1), .ref (w_4 2), .ref (w_4 3), .ref (w_4 4), .ref (w_4 5), .ref (w_4 6), .ref (w_4 7), .int 0, .int 0, .int 0, .int 0, .int 0, .int 0, .int 0, .int 0]))]) (w1 := [(q6, .inr (7, MO rf_7 0 0 0 0 0)), (rf_7 2, .inl ((cf_8 0), 60, .inl (fun _ => 0))), (rf_7 14, .inl ((cf_8 1), 400, .inl (fun _ => 0))), (rf_7 15, .inl ((cf_8 2), 400, .inl (fun _ => 0))), (rf_7 16, .inl ((cf_8 3), 400, .inl (fun _ => 0))), (rf_7 17, .inl ((cf_8 4), 400, .inl (fun _ => 0)))]) hP hD [5] [0, 1, 2, 3, 4] rfl rfl (by decide) (by decide) hk1 hFc hP1 hD1
  have hK := (hK.sub (tys' := [(cA_5, .int)]) [0] rfl).app hK1
  generalize H1 = H at hP hS ⊢
  have hP : va_P (dC, dI) vwCl [(q1, .inr (6, CO u_2 0 0 0)), (u_2 0, .inl (cA_5, 60, .inl (fun _ => 0))), (u_2 1, .inr (2, [.ref (v_3 0), .ref (v_3 1), .ref (v_3 2), .ref (v_3 3), .ref (v_3 4), .int 0])), (u_2 2, .inr (1, [.ref (u_2 0), .ref (u_2 1), .int 0, .int 0, .int 0, .int (-1)])), (u_2 4, .inr (0, [.ref (u_2 1), .ref (w_4 1), .ref (w_4 2), .ref (w_4 3), .ref (w_4 4), .ref (w_4 5), .ref (w_4 6), .ref (w_4 7), .int 0, .int 0, .int 0, .int 0, .int 0, .int 0, .int 0, .int 0])), (q6, .inr (7, MO rf_7 0 0 0 0 0)), (rf_7 2, .inl ((cf_8 0), 60, .inl (fun _ => 0))), (rf_7 14, .inl ((cf_8 1), 400, .inl (fun _ => 0))), (rf_7 15, .inl ((cf_8 2), 400, .inl (fun _ => 0))), (rf_7 16, .inl ((cf_8 3), 400, .inl (fun _ => 0))), (rf_7 17, .inl ((cf_8 4), 400, .inl (fun _ => 0)))] H := hP
  have hD : va_D (fun q : Nat => s.heap.size ≤ q) [(q1, .inr (6, CO u_2 0 0 0)), (u_2 0, .inl (cA_5, 60, .inl (fun _ => 0))), (u_2 1, .inr (2, [.ref (v_3 0), .ref (v_3 1), .ref (v_3 2), .ref (v_3 3), .ref (v_3 4), .int 0])), (u_2 2, .inr (1, [.ref (u_2 0), .ref (u_2 1), .int 0, .int 0, .int 0, .int (-1)])), (u_2 4, .inr (0, [.ref (u_2 1), .ref (w_4 1), .ref (w_4 2), .ref (w_4 3), .ref (w_4 4), .ref (w_4 5), .ref (w_4 6), .ref (w_4 7), .int 0, .int 0, .int 0, .int 0, .int 0, .int 0, .int 0, .int 0])), (q6, .inr (7, MO rf_7 0 0 0 0 0)), (rf_7 2, .inl ((cf_8 0), 60, .inl (fun _ => 0))), (rf_7 14, .inl ((cf_8 1), 400, .inl (fun _ => 0))), (rf_7 15, .inl ((cf_8 2), 400, .inl (fun _ => 0))), (rf_7 16, .inl ((cf_8 3), 400, .inl (fun _ => 0))), (rf_7 17, .inl ((cf_8 4), 400, .inl (fun _ => 0)))] := hD
  have hK : va_K (dC, dI) vwCl [(cA_5, .int), (cf_8 0, .int), (cf_8 1, .int), (cf_8 2, .int), (cf_8 3, .int), (cf_8 4, .int)] s := hK
  refine W.widen (k := 70) (n := 29141) (by decide) (by decide) ?_
  refine lv_astore_n (lv' := [(2, .ref q6), (1, .ref q1), (0, .ref b)]) hx hb dL_law_15 rfl hl (by decide) rfl (fun ls hl => ?_)
  refine lv_iconst (v := 1) hx hb dL_law_16 (by decide) ?_
  refine va_newa (atype := .long) (N' := 1) (a0 := (1, .inr (.inl (fun _ => 0)))) (ty := .long) (n := 1) hx hb (hB _ bg396) rfl hK hP hD hS hA (fun _ => rfl) (by decide) (by decide) (by decide) (Nat.le_of_ble_eq_true rfl) (Nat.le_of_ble_eq_true rfl) dL_law_17 (fun q9 cA10 H hK hP hD hS => ?_)
  have hP : va_P (dC, dI) vwCl [(q1, .inr (6, CO u_2 0 0 0)), (u_2 0, .inl (cA_5, 60, .inl (fun _ => 0))), (u_2 1, .inr (2, [.ref (v_3 0), .ref (v_3 1), .ref (v_3 2), .ref (v_3 3), .ref (v_3 4), .int 0])), (u_2 2, .inr (1, [.ref (u_2 0), .ref (u_2 1), .int 0, .int 0, .int 0, .int (-1)])), (u_2 4, .inr (0, [.ref (u_2 1), .ref (w_4 1), .ref (w_4 2), .ref (w_4 3), .ref (w_4 4), .ref (w_4 5), .ref (w_4 6), .ref (w_4 7), .int 0, .int 0, .int 0, .int 0, .int 0, .int 0, .int 0, .int 0])), (q6, .inr (7, MO rf_7 0 0 0 0 0)), (rf_7 2, .inl ((cf_8 0), 60, .inl (fun _ => 0))), (rf_7 14, .inl ((cf_8 1), 400, .inl (fun _ => 0))), (rf_7 15, .inl ((cf_8 2), 400, .inl (fun _ => 0))), (rf_7 16, .inl ((cf_8 3), 400, .inl (fun _ => 0))), (rf_7 17, .inl ((cf_8 4), 400, .inl (fun _ => 0))), (q9, .inl (cA10, 1, .inr (.inl (fun _ => 0))))] H := hP
  have hD : va_D (fun q : Nat => s.heap.size ≤ q) [(q1, .inr (6, CO u_2 0 0 0)), (u_2 0, .inl (cA_5, 60, .inl (fun _ => 0))), (u_2 1, .inr (2, [.ref (v_3 0), .ref (v_3 1), .ref (v_3 2), .ref (v_3 3), .ref (v_3 4), .int 0])), (u_2 2, .inr (1, [.ref (u_2 0), .ref (u_2 1), .int 0, .int 0, .int 0, .int (-1)])), (u_2 4, .inr (0, [.ref (u_2 1), .ref (w_4 1), .ref (w_4 2), .ref (w_4 3), .ref (w_4 4), .ref (w_4 5), .ref (w_4 6), .ref (w_4 7), .int 0, .int 0, .int 0, .int 0, .int 0, .int 0, .int 0, .int 0])), (q6, .inr (7, MO rf_7 0 0 0 0 0)), (rf_7 2, .inl ((cf_8 0), 60, .inl (fun _ => 0))), (rf_7 14, .inl ((cf_8 1), 400, .inl (fun _ => 0))), (rf_7 15, .inl ((cf_8 2), 400, .inl (fun _ => 0))), (rf_7 16, .inl ((cf_8 3), 400, .inl (fun _ => 0))), (rf_7 17, .inl ((cf_8 4), 400, .inl (fun _ => 0))), (q9, .inl (cA10, 1, .inr (.inl (fun _ => 0))))] := hD
  have hK : va_K (dC, dI) vwCl [(cA_5, .int), (cf_8 0, .int), (cf_8 1, .int), (cf_8 2, .int), (cf_8 3, .int), (cf_8 4, .int), (cA10, .long)] s := hK
  refine W.widen (k := 71) (n := 29142) (by decide) (by decide) ?_
  refine lv_astore_n (lv' := [(3, .ref q9), (2, .ref q6), (1, .ref q1), (0, .ref b)]) hx hb dL_law_19 rfl hl (by decide) rfl (fun ls hl => ?_)
  refine lv_iconst (v := 0) hx hb dL_law_20 (by decide) ?_
  refine lv_istore (lv' := [(4, .int 0), (3, .ref q9), (2, .ref q6), (1, .ref q1), (0, .ref b)]) hx hb dL_law_21 hl (by decide) rfl (fun ls hl => ?_)
  have hP := hP.sub (ws' := [(q1, .inr (6, CO u_2 0 0 0)), (u_2 0, .inl (cA_5, 60, .inl (fun _ => 0))), (u_2 1, .inr (2, [.ref (v_3 0), .ref (v_3 1), .ref (v_3 2), .ref (v_3 3), .ref (v_3 4), .int 0])), (u_2 2, .inr (1, [.ref (u_2 0), .ref (u_2 1), .int 0, .int 0, .int 0, .int (-1)])), (u_2 4, .inr (0, [.ref (u_2 1), .ref (w_4 1), .ref (w_4 2), .ref (w_4 3), .ref (w_4 4), .ref (w_4 5), .ref (w_4 6), .ref (w_4 7), .int 0, .int 0, .int 0, .int 0, .int 0, .int 0, .int 0, .int 0])), (q6, .inr (7, MO rf_7 0 0 0 0 0)), (rf_7 2, .inl ((cf_8 0), 60, .inl (fun _ => 0))), (rf_7 14, .inl ((cf_8 1), 400, .inl (fun _ => 0))), (rf_7 15, .inl ((cf_8 2), 400, .inl (fun _ => 0))), (rf_7 16, .inl ((cf_8 3), 400, .inl (fun _ => 0))), (rf_7 17, .inl ((cf_8 4), 400, .inl (fun _ => 0))), (q9, .inl (cA10, 1, .inr (.inl (fun _ => 0))))]) [0, 1, 2, 3, 4, 5, 6, 7, 8, 9, 10, 11] rfl
  have hD := hD.sub (ws' := [(q1, .inr (6, CO u_2 0 0 0)), (u_2 0, .inl (cA_5, 60, .inl (fun _ => 0))), (u_2 1, .inr (2, [.ref (v_3 0), .ref (v_3 1), .ref (v_3 2), .ref (v_3 3), .ref (v_3 4), .int 0])), (u_2 2, .inr (1, [.ref (u_2 0), .ref (u_2 1), .int 0, .int 0, .int 0, .int (-1)])), (u_2 4, .inr (0, [.ref (u_2 1), .ref (w_4 1), .ref (w_4 2), .ref (w_4 3), .ref (w_4 4), .ref (w_4 5), .ref (w_4 6), .ref (w_4 7), .int 0, .int 0, .int 0, .int 0, .int 0, .int 0, .int 0, .int 0])), (q6, .inr (7, MO rf_7 0 0 0 0 0)), (rf_7 2, .inl ((cf_8 0), 60, .inl (fun _ => 0))), (rf_7 14, .inl ((cf_8 1), 400, .inl (fun _ => 0))), (rf_7 15, .inl ((cf_8 2), 400, .inl (fun _ => 0))), (rf_7 16, .inl ((cf_8 3), 400, .inl (fun _ => 0))), (rf_7 17, .inl ((cf_8 4), 400, .inl (fun _ => 0))), (q9, .inl (cA10, 1, .inr (.inl (fun _ => 0))))]) [0, 1, 2, 3, 4, 5, 6, 7, 8, 9, 10, 11] (by decide) rfl
  have hK := hK.sub (tys' := [(cA_5, .int), (cf_8 0, .int), (cf_8 1, .int), (cf_8 2, .int), (cf_8 3, .int), (cf_8 4, .int), (cA10, .long)]) [0, 1, 2, 3, 4, 5, 6] rfl
  have hl := lv_sub hl (l' := [(4, .int 0), (3, .ref q9), (2, .ref q6), (1, .ref q1), (0, .ref b)]) [0, 1, 2, 3, 4] rfl
  refine lv_iload hx hb dL_law_23 (lv_at hl 0 rfl) ?_
  refine lv_aload_n hx hb dL_law_25 rfl (lv_at hl 4 rfl) ?_
  refine va_slen hx hb hX hbl hbA hS dL_law_26 ?_
  refine lv_iconst (v := 2) hx hb dL_law_27 (by decide) ?_
  refine lv_isub hx hb dL_law_28 ?_
  obtain hL2 | hL2 : L = 2 ∨ L < 2 := by omega
  · subst hL2
    rw [show Int32.ofNat 2 - 2 = 0 by decide]
    refine lv_icmp_gt (tgt := 496) hx hb dL_law_29 (by decide) (fun c9 => absurd c9 (by decide)) (fun _ => ?_)
    refine lv_aload_n hx hb dL_law_32 rfl (lv_at hl 4 rfl) ?_
    refine lv_iload hx hb dL_law_33 (lv_at hl 0 rfl) ?_
    refine va_sld hx hb hX hbl hbA hS (i := 0) (by rw [vp_in_iff]; decide) dL_law_35 ?_
    refine lv_bipush (v := 15) hx hb dL_law_36 (by decide) ?_
    refine lv_iand hx hb dL_law_38 ?_
    obtain ⟨j, hj, ej⟩ := pk_andE (xs (0 : Int32).toNatClampNeg) (m := 15) 4 (by decide)
    rw [ej]
    obtain ⟨t, hp⟩ : ∃ t, xs (1 : Int32).toNatClampNeg = t := ⟨_, rfl⟩
    have hj16 : j < 16 := hj
    obtain rfl | rfl | rfl | rfl | rfl | rfl | rfl | rfl | rfl | rfl | rfl | h11 : j = 0 ∨ j = 1 ∨ j = 2 ∨ j = 3 ∨ j = 4 ∨ j = 5 ∨ j = 6 ∨ j = 7 ∨ j = 8 ∨ j = 9 ∨ j = 10 ∨ 11 ≤ j := by omega
    · rw [show nI 0 = (0 : Int32) by decide]
      refine lv_tableIn (off := 57) (tgt := 96) hx hb dL_law_39 (by decide) (by decide) (by decide) (by decide) ?_
      by_cases ht : tk t
      · exact law_token_y hl9 C0 dC dI q1 q6 q9 u_2 v_3 w_4 cA_5 rf_7 cf_8 cA10 t hp ht _ _ hK hP hD hS ls hl
      · exact law_token_n hl9 C0 dC dI q1 q6 q9 u_2 v_3 w_4 cA_5 rf_7 cf_8 cA10 t hp ht _ _ hK hP hD hS ls hl
    · rw [show nI 1 = (1 : Int32) by decide]
      refine lv_tableIn (off := 120) (tgt := 159) hx hb dL_law_39 (by decide) (by decide) (by decide) (by decide) ?_
      exact law_parse hl9 C0 dC dI q1 q6 q9 u_2 v_3 w_4 cA_5 rf_7 cf_8 cA10 _ _ hK hP hD hS ls hl
    · rw [show nI 2 = (2 : Int32) by decide]
      refine lv_tableIn (off := 164) (tgt := 203) hx hb dL_law_39 (by decide) (by decide) (by decide) (by decide) ?_
      exact law_infer hl9 C0 dC dI q1 q6 q9 u_2 v_3 w_4 cA_5 rf_7 cf_8 cA10 _ _ hK hP hD hS ls hl
    · rw [show nI 3 = (3 : Int32) by decide]
      refine lv_tableIn (off := 208) (tgt := 247) hx hb dL_law_39 (by decide) (by decide) (by decide) (by decide) ?_
      exact law_run hl9 C0 dC dI q1 q6 q9 u_2 v_3 w_4 cA_5 rf_7 cf_8 cA10 t hp _ _ hK hP hD hS ls hl
    · rw [show nI 4 = (4 : Int32) by decide]
      refine lv_tableIn (off := 264) (tgt := 303) hx hb dL_law_39 (by decide) (by decide) (by decide) (by decide) ?_
      exact law_reset hl9 C0 dC dI q1 q6 q9 u_2 v_3 w_4 cA_5 rf_7 cf_8 cA10 _ _ hK hP hD hS ls hl
    · rw [show nI 5 = (5 : Int32) by decide]
      refine lv_tableIn (off := 275) (tgt := 314) hx hb dL_law_39 (by decide) (by decide) (by decide) (by decide) ?_
      exact law_phase hl9 C0 dC dI q1 q6 q9 u_2 v_3 w_4 cA_5 rf_7 cf_8 cA10 _ _ hK hP hD hS ls hl
    · rw [show nI 6 = (6 : Int32) by decide]
      refine lv_tableIn (off := 288) (tgt := 327) hx hb dL_law_39 (by decide) (by decide) (by decide) (by decide) ?_
      exact law_typeSize hl9 C0 dC dI q1 q6 q9 u_2 v_3 w_4 cA_5 rf_7 cf_8 cA10 _ _ hK hP hD hS ls hl
    · rw [show nI 7 = (7 : Int32) by decide]
      refine lv_tableIn (off := 301) (tgt := 340) hx hb dL_law_39 (by decide) (by decide) (by decide) (by decide) ?_
      exact law_typeAt hl9 C0 dC dI q1 q6 q9 u_2 v_3 w_4 cA_5 rf_7 cf_8 cA10 t hp _ _ hK hP hD hS ls hl
    · rw [show nI 8 = (8 : Int32) by decide]
      refine lv_tableIn (off := 357) (tgt := 396) hx hb dL_law_39 (by decide) (by decide) (by decide) (by decide) ?_
      exact law_outSize hl9 C0 dC dI q1 q6 q9 u_2 v_3 w_4 cA_5 rf_7 cf_8 cA10 _ _ hK hP hD hS ls hl
    · rw [show nI 9 = (9 : Int32) by decide]
      refine lv_tableIn (off := 370) (tgt := 409) hx hb dL_law_39 (by decide) (by decide) (by decide) (by decide) ?_
      exact law_outAt hl9 C0 dC dI q1 q6 q9 u_2 v_3 w_4 cA_5 rf_7 cf_8 cA10 t hp _ _ hK hP hD hS ls hl
    · rw [show nI 10 = (10 : Int32) by decide]
      refine lv_tableIn (off := 426) (tgt := 465) hx hb dL_law_39 (by decide) (by decide) (by decide) (by decide) ?_
      by_cases h0 : t = 0
      · subst h0; exact law_used0 hl9 C0 dC dI q1 q6 q9 u_2 v_3 w_4 cA_5 rf_7 cf_8 cA10 hp _ _ hK hP hD hS ls hl
      by_cases h1 : t = 1
      · subst h1; exact law_used1 hl9 C0 dC dI q1 q6 q9 u_2 v_3 w_4 cA_5 rf_7 cf_8 cA10 hp _ _ hK hP hD hS ls hl
      by_cases h2 : t = 2
      · subst h2; exact law_used2 hl9 C0 dC dI q1 q6 q9 u_2 v_3 w_4 cA_5 rf_7 cf_8 cA10 hp _ _ hK hP hD hS ls hl
      exact law_usedN hl9 C0 dC dI q1 q6 q9 u_2 v_3 w_4 cA_5 rf_7 cf_8 cA10 t hp (used_out h0 h1 h2) _ _ hK hP hD hS ls hl
    · have hji : (nI j).toInt = (j : Int) := nI_toInt (by omega)
      refine lv_tableOut (tgt := 490) hx hb dL_law_39 (Or.inr (by rw [hji]; omega)) (by decide) ?_
      exact law_end C0 _ _ hS (by decide) (by decide) ls (lv_sub hl [4, 0] rfl)
  · have hlt : Int32.ofNat L - 2 < 0 := by
      obtain rfl | rfl : L = 0 ∨ L = 1 := by omega
      · decide
      · decide
    refine lv_icmp_gt (tgt := 496) hx hb dL_law_29 (by decide) (fun _ => ?_) (fun c9 => absurd hlt c9)
    refine lv_iconst (v := 1) hx hb dL_law_496 (by decide) ?_
    refine va_forget (fun q hq => hS.2.2 q hq) ?_
    refine W.widen (k := 600002) (n := 7302232) (by decide) (by decide) ?_
    exact lw_ret hx hb hr hlocks dL_law_497
