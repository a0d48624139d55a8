set_option maxHeartbeats 4000000 in
set_option maxRecDepth 100000 in
theorem c_X4_settle (l : Launch) (D : va_G) (k : Nat → ClassId) (ob : Nat) (tn : Nat) (ob_0 : Nat) (ob_1 : Nat) (obc : Nat) (obd : Nat) (obg0 : Nat → Int32) (obg1 : Nat → Int32) (obc_0 : Nat) (obcv1 : Int32) (obcv2 : Int32) (obcg0 : Nat → Int32) (obd_0 : Nat) (obdv1 : Int32) (obdv2 : Int32) (obdg0 : Nat → Int32) (tnv0 : Int32) (tnv1 : Int32) (tnv2 : Int32) (tn_3 : Nat) (tn_4 : Nat) (tn_5 : Nat) (tn_6 : Nat) (tnv7 : Int32) (tnv8 : Int32) (tn_9 : Nat) (tn_10 : Nat) (tnv11 : Int32) (tn_12 : Nat) (tn_13 : Nat) (tn_14 : Nat) (tn_15 : Nat) (tnv16 : Int32) (tn_17 : Nat) (tn_18 : Nat) (tnt : Nat) (tng3 : Nat → Int32) (tng4 : Nat → Int32) (tng5 : Nat → Int32) (tng9 : Nat → Int32) (tng10 : Nat → Int32) (tng17 : Nat → Int32) (tng18 : Nat → Int32) (sz : Nat) (hp_obcg0_0 : PR 8 1 0 0 1000000 obcg0) (hp_obdg0_0 : PR 8 1 0 0 1000000 obdg0) (h_tnv0 : 0 ≤ tnv0.toInt ∧ tnv0.toInt ≤ 8) (h_tnv2 : 0 ≤ tnv2.toInt ∧ tnv2.toInt ≤ 10) (h_tnv8 : 0 ≤ tnv8.toInt ∧ tnv8.toInt ≤ 4) (h_tnv11 : 0 ≤ tnv11.toInt ∧ tnv11.toInt ≤ 6) (h_tnv16 : 0 ≤ tnv16.toInt ∧ tnv16.toInt ≤ 2) (hp_tng3_0 : PR 10 1 0 0 7 tng3) (hp_tng4_0 : PR 10 1 0 0 7 tng4) (hp_tng5_0 : PR 10 1 0 0 60 tng5) (hp_tng9_0 : PR 4 1 0 0 7 tng9) (hp_tng10_0 : PR 4 1 0 0 99 tng10) (hp_tng17_0 : PR 2 1 0 0 7 tng17) (hp_tng18_0 : PR 2 1 0 0 999 tng18) : Met l yX4_settle (ww yX4_settle cX4_settle 4 none) ({ frames := 5, cells := 0, slots := 0, locals := 121 }) (Pre0 D k [(ob, .inr (4, [.ref ob_0, .ref ob_1, .ref obc, .ref obd])), (ob_0, .inl (k 0, 8, .inl obg0)), (ob_1, .inl (k 0, 8, .inl obg1)), (obc, .inr (1, [.ref obc_0, .int obcv1, .int obcv2])), (obc_0, .inl (k 0, 8, .inl obcg0)), (obd, .inr (1, [.ref obd_0, .int obdv1, .int obdv2])), (obd_0, .inl (k 0, 8, .inl obdg0)), (tn, .inr (10, [.int tnv0, .int tnv1, .int tnv2, .ref tn_3, .ref tn_4, .ref tn_5, .ref tn_6, .int tnv7, .int tnv8, .ref tn_9, .ref tn_10, .int tnv11, .ref tn_12, .ref tn_13, .ref tn_14, .ref tn_15, .int tnv16, .ref tn_17, .ref tn_18, .ref tnt])), (tn_3, .inl (k 0, 10, .inl tng3)), (tn_4, .inl (k 0, 10, .inl tng4)), (tn_5, .inl (k 0, 10, .inl tng5)), (tn_9, .inl (k 0, 4, .inl tng9)), (tn_10, .inl (k 0, 4, .inl tng10)), (tn_17, .inl (k 0, 2, .inl tng17)), (tn_18, .inl (k 0, 2, .inl tng18))] sz [.ref ob, .ref tn]) (va_Qv (fun (u : (Nat → Int32) × (Nat → Int32) × Int32 × Int32 × (Nat → Int32) × Int32 × Int32 × (Nat → Int32)) => match u with | (obg0z, obg1z, obcv1z, obcv2z, obcg0z, obdv1z, obdv2z, obdg0z) => (PR 8 1 0 0 1000000 obg1z) ∧ (PR 8 1 0 0 1000000 obcg0z) ∧ (PR 8 1 0 0 1000000 obdg0z)) (fun (u : (Nat → Int32) × (Nat → Int32) × Int32 × Int32 × (Nat → Int32) × Int32 × Int32 × (Nat → Int32)) tZ => match u with | (obg0z, obg1z, obcv1z, obcv2z, obcg0z, obdv1z, obdv2z, obdg0z) => Bw D k (va_A [(ob, .inr (4, [.ref ob_0, .ref ob_1, .ref obc, .ref obd])), (ob_0, .inl (k 0, 8, .inl obg0)), (ob_1, .inl (k 0, 8, .inl obg1)), (obc, .inr (1, [.ref obc_0, .int obcv1, .int obcv2])), (obc_0, .inl (k 0, 8, .inl obcg0)), (obd, .inr (1, [.ref obd_0, .int obdv1, .int obdv2])), (obd_0, .inl (k 0, 8, .inl obdg0)), (tn, .inr (10, [.int tnv0, .int tnv1, .int tnv2, .ref tn_3, .ref tn_4, .ref tn_5, .ref tn_6, .int tnv7, .int tnv8, .ref tn_9, .ref tn_10, .int tnv11, .ref tn_12, .ref tn_13, .ref tn_14, .ref tn_15, .int tnv16, .ref tn_17, .ref tn_18, .ref tnt])), (tn_3, .inl (k 0, 10, .inl tng3)), (tn_4, .inl (k 0, 10, .inl tng4)), (tn_5, .inl (k 0, 10, .inl tng5)), (tn_9, .inl (k 0, 4, .inl tng9)), (tn_10, .inl (k 0, 4, .inl tng10)), (tn_17, .inl (k 0, 2, .inl tng17)), (tn_18, .inl (k 0, 2, .inl tng18))] sz) [(ob, .inr (4, [.ref ob_0, .ref ob_1, .ref obc, .ref obd])), (ob_0, .inl (k 0, 8, .inl obg0z)), (ob_1, .inl (k 0, 8, .inl obg1z)), (obc, .inr (1, [.ref obc_0, .int obcv1z, .int obcv2z])), (obc_0, .inl (k 0, 8, .inl obcg0z)), (obd, .inr (1, [.ref obd_0, .int obdv1z, .int obdv2z])), (obd_0, .inl (k 0, 8, .inl obdg0z)), (tn, .inr (10, [.int tnv0, .int tnv1, .int tnv2, .ref tn_3, .ref tn_4, .ref tn_5, .ref tn_6, .int tnv7, .int tnv8, .ref tn_9, .ref tn_10, .int tnv11, .ref tn_12, .ref tn_13, .ref tn_14, .ref tn_15, .int tnv16, .ref tn_17, .ref tn_18, .ref tnt])), (tn_3, .inl (k 0, 10, .inl tng3)), (tn_4, .inl (k 0, 10, .inl tng4)), (tn_5, .inl (k 0, 10, .inl tng5)), (tn_9, .inl (k 0, 4, .inl tng9)), (tn_10, .inl (k 0, 4, .inl tng10)), (tn_17, .inl (k 0, 2, .inl tng17)), (tn_18, .inl (k 0, 2, .inl tng18))] tZ) (va_A [(ob, .inr (4, [.ref ob_0, .ref ob_1, .ref obc, .ref obd])), (ob_0, .inl (k 0, 8, .inl obg0)), (ob_1, .inl (k 0, 8, .inl obg1)), (obc, .inr (1, [.ref obc_0, .int obcv1, .int obcv2])), (obc_0, .inl (k 0, 8, .inl obcg0)), (obd, .inr (1, [.ref obd_0, .int obdv1, .int obdv2])), (obd_0, .inl (k 0, 8, .inl obdg0)), (tn, .inr (10, [.int tnv0, .int tnv1, .int tnv2, .ref tn_3, .ref tn_4, .ref tn_5, .ref tn_6, .int tnv7, .int tnv8, .ref tn_9, .ref tn_10, .int tnv11, .ref tn_12, .ref tn_13, .ref tn_14, .ref tn_15, .int tnv16, .ref tn_17, .ref tn_18, .ref tnt])), (tn_3, .inl (k 0, 10, .inl tng3)), (tn_4, .inl (k 0, 10, .inl tng4)), (tn_5, .inl (k 0, 10, .inl tng5)), (tn_9, .inl (k 0, 4, .inl tng9)), (tn_10, .inl (k 0, 4, .inl tng10)), (tn_17, .inl (k 0, 2, .inl tng17)), (tn_18, .inl (k 0, 2, .inl tng18))] sz)) 0 0 (va_A [(ob, .inr (4, [.ref ob_0, .ref ob_1, .ref obc, .ref obd])), (ob_0, .inl (k 0, 8, .inl obg0)), (ob_1, .inl (k 0, 8, .inl obg1)), (obc, .inr (1, [.ref obc_0, .int obcv1, .int obcv2])), (obc_0, .inl (k 0, 8, .inl obcg0)), (obd, .inr (1, [.ref obd_0, .int obdv1, .int obdv2])), (obd_0, .inl (k 0, 8, .inl obdg0)), (tn, .inr (10, [.int tnv0, .int tnv1, .int tnv2, .ref tn_3, .ref tn_4, .ref tn_5, .ref tn_6, .int tnv7, .int tnv8, .ref tn_9, .ref tn_10, .int tnv11, .ref tn_12, .ref tn_13, .ref tn_14, .ref tn_15, .int tnv16, .ref tn_17, .ref tn_18, .ref tnt])), (tn_3, .inl (k 0, 10, .inl tng3)), (tn_4, .inl (k 0, 10, .inl tng4)), (tn_5, .inl (k 0, 10, .inl tng5)), (tn_9, .inl (k 0, 4, .inl tng9)), (tn_10, .inl (k 0, 4, .inl tng10)), (tn_17, .inl (k 0, 2, .inl tng17)), (tn_18, .inl (k 0, 2, .inl tng18))] sz) := by
  refine Met.ofW (cc := cX4_settle) (maxL := 4) (ret := none) (by decide +kernel) rfl ?_
  intro p e s m args below meth c s₁ B hml hv
  obtain ⟨rfl, hsz, hP, hK, hD0, hN⟩ := hv
  have hx := B.exec
  have hb := B.bytes
  have hr := B.returns
  have hts : ∀ w ∈ TT, w.before _ s = true := fun w h => atoms_spec (ws := ww yX4_settle cX4_settle 4 none) B.pre w (List.mem_cons_of_mem _ h)
  have hown : s.vm.findClass RX4 = some m.cls := findClass_of_methodNamed B.named
  have hlocks := B.notSynchronized
  subst hsz
  have hD := hD0.self (sz := s.heap.size)
  generalize hAe : va_A [(ob, .inr (4, [.ref ob_0, .ref ob_1, .ref obc, .ref obd])), (ob_0, .inl (k 0, 8, .inl obg0)), (ob_1, .inl (k 0, 8, .inl obg1)), (obc, .inr (1, [.ref obc_0, .int obcv1, .int obcv2])), (obc_0, .inl (k 0, 8, .inl obcg0)), (obd, .inr (1, [.ref obd_0, .int obdv1, .int obdv2])), (obd_0, .inl (k 0, 8, .inl obdg0)), (tn, .inr (10, [.int tnv0, .int tnv1, .int tnv2, .ref tn_3, .ref tn_4, .ref tn_5, .ref tn_6, .int tnv7, .int tnv8, .ref tn_9, .ref tn_10, .int tnv11, .ref tn_12, .ref tn_13, .ref tn_14, .ref tn_15, .int tnv16, .ref tn_17, .ref tn_18, .ref tnt])), (tn_3, .inl (k 0, 10, .inl tng3)), (tn_4, .inl (k 0, 10, .inl tng4)), (tn_5, .inl (k 0, 10, .inl tng5)), (tn_9, .inl (k 0, 4, .inl tng9)), (tn_10, .inl (k 0, 4, .inl tng10)), (tn_17, .inl (k 0, 2, .inl tng17)), (tn_18, .inl (k 0, 2, .inl tng18))] s.heap.size = A at hD ⊢
  have hA : ∀ q : Nat, s.heap.size ≤ q → A q := fun q h => by rw [← hAe]; exact Or.inr h
  have hS : va_S A s.heap s.heap [] := va_S.rf
  have hl := lv_entry ([.ref ob, .ref tn]) (n := 4) (Nat.le_of_ble_eq_true rfl)
  rw [lg_entry_eq]
  generalize (lg_sl ([.ref ob, .ref tn]) ++ List.replicate (4 - (lg_sl ([.ref ob, .ref tn])).length) Slot.unset).toArray = ls at hl ⊢
  have hl : lv_has ls 4 [(0, .ref ob), (1, .ref tn)] := hl
  refine lv_aload_n hx hb dX4_settle_0 rfl (lv_at hl 0 rfl) ?_
  refine va_get (D := D) (ci := 4) (v := .ref obc) (C := RX4) (T := TX4) (N := 4) hx hb hts iT_X4 hown hK hP 0 rfl rfl 2 (by decide) (hts _ tw_2_45) (fun _ h9 => h9) rfl dX4_settle_1 ?_
  refine lv_aload_n hx hb dX4_settle_4 rfl (lv_at hl 1 rfl) ?_
  obtain ⟨hPc, hDc, hFc⟩ := sub3 hP hD hS hA (ws' := [(obc, .inr (1, [.ref obc_0, .int obcv1, .int obcv2])), (obc_0, .inl (k 0, 8, .inl obcg0)), (tn, .inr (10, [.int tnv0, .int tnv1, .int tnv2, .ref tn_3, .ref tn_4, .ref tn_5, .ref tn_6, .int tnv7, .int tnv8, .ref tn_9, .ref tn_10, .int tnv11, .ref tn_12, .ref tn_13, .ref tn_14, .ref tn_15, .int tnv16, .ref tn_17, .ref tn_18, .ref tnt])), (tn_3, .inl (k 0, 10, .inl tng3)), (tn_4, .inl (k 0, 10, .inl tng4)), (tn_5, .inl (k 0, 10, .inl tng5)), (tn_9, .inl (k 0, 4, .inl tng9)), (tn_10, .inl (k 0, 4, .inl tng10))]) [3, 4, 7, 8, 9, 10, 11, 12] (by decide +kernel) rfl
  refine va_callv (va_runV (C := RX1) (As := [.ref tn]) (rest := []) ⟨hx, hb, hml, hown, hts⟩ (c_X1_fallNow l D k obc tn obc_0 obcv1 obcv2 obcg0 tnv0 tnv1 tnv2 tn_3 tn_4 tn_5 tn_6 tnv7 tnv8 tn_9 tn_10 tnv11 tn_12 tn_13 tn_14 tn_15 tnv16 tn_17 tn_18 tnt tng3 tng4 tng5 tng9 tng10 s.heap.size hp_obcg0_0 (show 0 ≤ tnv0.toInt ∧ tnv0.toInt ≤ 8 from by omega) (show 0 ≤ tnv2.toInt ∧ tnv2.toInt ≤ 10 from by omega) (show 0 ≤ tnv8.toInt ∧ tnv8.toInt ≤ 4 from by omega) (show 0 ≤ tnv11.toInt ∧ tnv11.toInt ≤ 6 from by omega) (show 0 ≤ tnv16.toInt ∧ tnv16.toInt ≤ 2 from by omega) hp_tng3_0 hp_tng4_0 hp_tng5_0 hp_tng9_0 hp_tng10_0) (cwV 1 hts (gV tw_4_44 tw_3_176 tw_3_177 tw_1_6 tw_3_178) rfl rfl rfl hdV_X1_fallNow ⟨Nat.le_of_ble_eq_true rfl, Nat.le_of_ble_eq_true rfl⟩) (cz_V hK hPc hDc hN (ci := 1) (q0 := 0) rfl rfl [.ref tn]) rfl rfl hl.1 rfl (lv_room (Nat.le_of_ble_eq_true rfl)) dX4_settle_5 ⟨Nat.le_of_ble_eq_true rfl, Nat.le_of_ble_eq_true rfl⟩) hS (fun q _ h => hFc q h) hFc (fun uZ tZ H1 locs ht hvm hw hB hz1 hk1 hS => ?_)
  obtain ⟨o_2, o_3, o_4⟩ := uZ
  obtain ⟨hP1, hK1, hD1⟩ := hB
  rw [ht] at hP1
  obtain ⟨hP, hD⟩ := va_join (wr := [(ob, .inr (4, [.ref ob_0, .ref ob_1, .ref obc, .ref obd])), (ob_0, .inl (k 0, 8, .inl obg0)), (ob_1, .inl (k 0, 8, .inl obg1)), (obd, .inr (1, [.ref obd_0, .int obdv1, .int obdv2])), (obd_0, .inl (k 0, 8, .inl obdg0)), (tn_17, .inl (k 0, 2, .inl tng17)), (tn_18, .inl (k 0, 2, .inl tng18))]) (w1 := [(obc, .inr (1, [.ref obc_0, .int o_2, .int o_3])), (obc_0, .inl (k 0, 8, .inl o_4)), (tn, .inr (10, [.int tnv0, .int tnv1, .int tnv2, .ref tn_3, .ref tn_4, .ref tn_5, .ref tn_6, .int tnv7, .int tnv8, .ref tn_9, .ref tn_10, .int tnv11, .ref tn_12, .ref tn_13, .ref tn_14, .ref tn_15, .int tnv16, .ref tn_17, .ref tn_18, .ref tnt])), (tn_3, .inl (k 0, 10, .inl tng3)), (tn_4, .inl (k 0, 10, .inl tng4)), (tn_5, .inl (k 0, 10, .inl tng5)), (tn_9, .inl (k 0, 4, .inl tng9)), (tn_10, .inl (k 0, 4, .inl tng10))]) hP hD [3, 4, 7, 8, 9, 10, 11, 12] [0, 1, 2, 5, 6, 13, 14] rfl rfl (by decide +kernel) (by decide +kernel) hk1 hFc hP1 hD1
  clear hK1 hP1 hD1 hPc hDc hFc
  clear hk1 hz1 ht hvm
  have hP : va_P D vwCl [(ob, .inr (4, [.ref ob_0, .ref ob_1, .ref obc, .ref obd])), (ob_0, .inl (k 0, 8, .inl obg0)), (ob_1, .inl (k 0, 8, .inl obg1)), (obd, .inr (1, [.ref obd_0, .int obdv1, .int obdv2])), (obd_0, .inl (k 0, 8, .inl obdg0)), (tn_17, .inl (k 0, 2, .inl tng17)), (tn_18, .inl (k 0, 2, .inl tng18)), (obc, .inr (1, [.ref obc_0, .int o_2, .int o_3])), (obc_0, .inl (k 0, 8, .inl o_4)), (tn, .inr (10, [.int tnv0, .int tnv1, .int tnv2, .ref tn_3, .ref tn_4, .ref tn_5, .ref tn_6, .int tnv7, .int tnv8, .ref tn_9, .ref tn_10, .int tnv11, .ref tn_12, .ref tn_13, .ref tn_14, .ref tn_15, .int tnv16, .ref tn_17, .ref tn_18, .ref tnt])), (tn_3, .inl (k 0, 10, .inl tng3)), (tn_4, .inl (k 0, 10, .inl tng4)), (tn_5, .inl (k 0, 10, .inl tng5)), (tn_9, .inl (k 0, 4, .inl tng9)), (tn_10, .inl (k 0, 4, .inl tng10))] H1 := hP
  have hD : va_D A [(ob, .inr (4, [.ref ob_0, .ref ob_1, .ref obc, .ref obd])), (ob_0, .inl (k 0, 8, .inl obg0)), (ob_1, .inl (k 0, 8, .inl obg1)), (obd, .inr (1, [.ref obd_0, .int obdv1, .int obdv2])), (obd_0, .inl (k 0, 8, .inl obdg0)), (tn_17, .inl (k 0, 2, .inl tng17)), (tn_18, .inl (k 0, 2, .inl tng18)), (obc, .inr (1, [.ref obc_0, .int o_2, .int o_3])), (obc_0, .inl (k 0, 8, .inl o_4)), (tn, .inr (10, [.int tnv0, .int tnv1, .int tnv2, .ref tn_3, .ref tn_4, .ref tn_5, .ref tn_6, .int tnv7, .int tnv8, .ref tn_9, .ref tn_10, .int tnv11, .ref tn_12, .ref tn_13, .ref tn_14, .ref tn_15, .int tnv16, .ref tn_17, .ref tn_18, .ref tnt])), (tn_3, .inl (k 0, 10, .inl tng3)), (tn_4, .inl (k 0, 10, .inl tng4)), (tn_5, .inl (k 0, 10, .inl tng5)), (tn_9, .inl (k 0, 4, .inl tng9)), (tn_10, .inl (k 0, 4, .inl tng10))] := hD
  generalize H1 = H at hP hS ⊢
  have hw_5 : (PR 8 1 0 0 1000000 o_4) := hw
  have hw_6 := hw_5
  clear hw
  refine lv_aload_n hx hb dX4_settle_8 rfl (lv_at hl 0 rfl) ?_
  refine va_get (D := D) (ci := 4) (v := .ref ob_1) (C := RX4) (T := TX4) (N := 4) hx hb hts iT_X4 hown hK hP 0 rfl rfl 1 (by decide) (hts _ tw_2_43) (fun _ h9 => h9) rfl dX4_settle_9 ?_
  refine lv_ldc (v := 1000000) hx hb hown (hts _ tw_4_45) dX4_settle_12 ?_
  obtain ⟨hPc, hDc, hFc⟩ := sub3 hP hD hS hA (ws' := [(ob_1, .inl (k 0, 8, .inl obg1))]) [2] (by decide +kernel) rfl
  refine va_callv (va_runS (As := [.ref ob_1, .int 1000000]) (rest := []) ⟨hx, hb, hml, hown, hts⟩ (c_J7_fill_53178_0 l D k ob_1 obg1 H.size) (va_cwS 2 hts (gS tw_4_46 tw_3_193 tw_1_19 tw_3_194) rfl rfl rfl hdS_J7_fill_53178 ⟨Nat.le_of_ble_eq_true rfl, Nat.le_of_ble_eq_true rfl⟩) (cz_S hK hPc hDc hN [.ref ob_1, .int 1000000]) rfl rfl hl.1 rfl (lv_room (Nat.le_of_ble_eq_true rfl)) dX4_settle_14 ⟨Nat.le_of_ble_eq_true rfl, Nat.le_of_ble_eq_true rfl⟩) hS (fun q _ h => hFc q h) hFc (fun uZ tZ H1 locs ht hvm hw hB hz1 hk1 hS => ?_)
  obtain ⟨o_8, rfl⟩ : ∃ z, z = uZ := ⟨_, rfl⟩
  obtain ⟨hP1, hK1, hD1⟩ := hB
  rw [ht] at hP1
  obtain ⟨hP, hD⟩ := va_join (wr := [(ob, .inr (4, [.ref ob_0, .ref ob_1, .ref obc, .ref obd])), (ob_0, .inl (k 0, 8, .inl obg0)), (obd, .inr (1, [.ref obd_0, .int obdv1, .int obdv2])), (obd_0, .inl (k 0, 8, .inl obdg0)), (tn_17, .inl (k 0, 2, .inl tng17)), (tn_18, .inl (k 0, 2, .inl tng18)), (obc, .inr (1, [.ref obc_0, .int o_2, .int o_3])), (obc_0, .inl (k 0, 8, .inl o_4)), (tn, .inr (10, [.int tnv0, .int tnv1, .int tnv2, .ref tn_3, .ref tn_4, .ref tn_5, .ref tn_6, .int tnv7, .int tnv8, .ref tn_9, .ref tn_10, .int tnv11, .ref tn_12, .ref tn_13, .ref tn_14, .ref tn_15, .int tnv16, .ref tn_17, .ref tn_18, .ref tnt])), (tn_3, .inl (k 0, 10, .inl tng3)), (tn_4, .inl (k 0, 10, .inl tng4)), (tn_5, .inl (k 0, 10, .inl tng5)), (tn_9, .inl (k 0, 4, .inl tng9)), (tn_10, .inl (k 0, 4, .inl tng10))]) (w1 := [(ob_1, .inl (k 0, 8, .inl o_8))]) hP hD [2] [0, 1, 3, 4, 5, 6, 7, 8, 9, 10, 11, 12, 13, 14] rfl rfl (by decide +kernel) (by decide +kernel) hk1 hFc hP1 hD1
  clear hK1 hP1 hD1 hPc hDc hFc
  clear hk1 hz1 ht hvm
  have hP : va_P D vwCl [(ob, .inr (4, [.ref ob_0, .ref ob_1, .ref obc, .ref obd])), (ob_0, .inl (k 0, 8, .inl obg0)), (obd, .inr (1, [.ref obd_0, .int obdv1, .int obdv2])), (obd_0, .inl (k 0, 8, .inl obdg0)), (tn_17, .inl (k 0, 2, .inl tng17)), (tn_18, .inl (k 0, 2, .inl tng18)), (obc, .inr (1, [.ref obc_0, .int o_2, .int o_3])), (obc_0, .inl (k 0, 8, .inl o_4)), (tn, .inr (10, [.int tnv0, .int tnv1, .int tnv2, .ref tn_3, .ref tn_4, .ref tn_5, .ref tn_6, .int tnv7, .int tnv8, .ref tn_9, .ref tn_10, .int tnv11, .ref tn_12, .ref tn_13, .ref tn_14, .ref tn_15, .int tnv16, .ref tn_17, .ref tn_18, .ref tnt])), (tn_3, .inl (k 0, 10, .inl tng3)), (tn_4, .inl (k 0, 10, .inl tng4)), (tn_5, .inl (k 0, 10, .inl tng5)), (tn_9, .inl (k 0, 4, .inl tng9)), (tn_10, .inl (k 0, 4, .inl tng10)), (ob_1, .inl (k 0, 8, .inl o_8))] H1 := hP
  have hD : va_D A [(ob, .inr (4, [.ref ob_0, .ref ob_1, .ref obc, .ref obd])), (ob_0, .inl (k 0, 8, .inl obg0)), (obd, .inr (1, [.ref obd_0, .int obdv1, .int obdv2])), (obd_0, .inl (k 0, 8, .inl obdg0)), (tn_17, .inl (k 0, 2, .inl tng17)), (tn_18, .inl (k 0, 2, .inl tng18)), (obc, .inr (1, [.ref obc_0, .int o_2, .int o_3])), (obc_0, .inl (k 0, 8, .inl o_4)), (tn, .inr (10, [.int tnv0, .int tnv1, .int tnv2, .ref tn_3, .ref tn_4, .ref tn_5, .ref tn_6, .int tnv7, .int tnv8, .ref tn_9, .ref tn_10, .int tnv11, .ref tn_12, .ref tn_13, .ref tn_14, .ref tn_15, .int tnv16, .ref tn_17, .ref tn_18, .ref tnt])), (tn_3, .inl (k 0, 10, .inl tng3)), (tn_4, .inl (k 0, 10, .inl tng4)), (tn_5, .inl (k 0, 10, .inl tng5)), (tn_9, .inl (k 0, 4, .inl tng9)), (tn_10, .inl (k 0, 4, .inl tng10)), (ob_1, .inl (k 0, 8, .inl o_8))] := hD
  generalize H1 = H at hP hS ⊢
  have hw_9 : (PR 8 1 0 0 1000000 o_8) := hw
  have hw_10 := hw_9
  clear hw
  refine lv_aload_n hx hb dX4_settle_17 rfl (lv_at hl 0 rfl) ?_
  refine va_get (D := D) (ci := 4) (v := .ref ob_0) (C := RX4) (T := TX4) (N := 4) hx hb hts iT_X4 hown hK hP 0 rfl rfl 0 (by decide) (hts _ tw_2_41) (fun _ h9 => h9) rfl dX4_settle_18 ?_
  refine lv_iconst (v := (-1)) hx hb dX4_settle_21 (by decide) ?_
  obtain ⟨hPc, hDc, hFc⟩ := sub3 hP hD hS hA (ws' := [(ob_0, .inl (k 0, 8, .inl obg0))]) [1] (by decide +kernel) rfl
  refine va_callv (va_runS (As := [.ref ob_0, .int (-1)]) (rest := []) ⟨hx, hb, hml, hown, hts⟩ (c_J7_fill_53178_1 l D k ob_0 obg0 H.size) (va_cwS 2 hts (gS tw_4_46 tw_3_193 tw_1_19 tw_3_194) rfl rfl rfl hdS_J7_fill_53178 ⟨Nat.le_of_ble_eq_true rfl, Nat.le_of_ble_eq_true rfl⟩) (cz_S hK hPc hDc hN [.ref ob_0, .int (-1)]) rfl rfl hl.1 rfl (lv_room (Nat.le_of_ble_eq_true rfl)) dX4_settle_22 ⟨Nat.le_of_ble_eq_true rfl, Nat.le_of_ble_eq_true rfl⟩) hS (fun q _ h => hFc q h) hFc (fun uZ tZ H1 locs ht hvm hw hB hz1 hk1 hS => ?_)
  obtain ⟨o_12, rfl⟩ : ∃ z, z = uZ := ⟨_, rfl⟩
  obtain ⟨hP1, hK1, hD1⟩ := hB
  rw [ht] at hP1
  obtain ⟨hP, hD⟩ := va_join (wr := [(ob, .inr (4, [.ref ob_0, .ref ob_1, .ref obc, .ref obd])), (obd, .inr (1, [.ref obd_0, .int obdv1, .int obdv2])), (obd_0, .inl (k 0, 8, .inl obdg0)), (tn_17, .inl (k 0, 2, .inl tng17)), (tn_18, .inl (k 0, 2, .inl tng18)), (obc, .inr (1, [.ref obc_0, .int o_2, .int o_3])), (obc_0, .inl (k 0, 8, .inl o_4)), (tn, .inr (10, [.int tnv0, .int tnv1, .int tnv2, .ref tn_3, .ref tn_4, .ref tn_5, .ref tn_6, .int tnv7, .int tnv8, .ref tn_9, .ref tn_10, .int tnv11, .ref tn_12, .ref tn_13, .ref tn_14, .ref tn_15, .int tnv16, .ref tn_17, .ref tn_18, .ref tnt])), (tn_3, .inl (k 0, 10, .inl tng3)), (tn_4, .inl (k 0, 10, .inl tng4)), (tn_5, .inl (k 0, 10, .inl tng5)), (tn_9, .inl (k 0, 4, .inl tng9)), (tn_10, .inl (k 0, 4, .inl tng10)), (ob_1, .inl (k 0, 8, .inl o_8))]) (w1 := [(ob_0, .inl (k 0, 8, .inl o_12))]) hP hD [1] [0, 2, 3, 4, 5, 6, 7, 8, 9, 10, 11, 12, 13, 14] rfl rfl (by decide +kernel) (by decide +kernel) hk1 hFc hP1 hD1
  clear hK1 hP1 hD1 hPc hDc hFc
  clear hk1 hz1 ht hvm
  have hP : va_P D vwCl [(ob, .inr (4, [.ref ob_0, .ref ob_1, .ref obc, .ref obd])), (obd, .inr (1, [.ref obd_0, .int obdv1, .int obdv2])), (obd_0, .inl (k 0, 8, .inl obdg0)), (tn_17, .inl (k 0, 2, .inl tng17)), (tn_18, .inl (k 0, 2, .inl tng18)), (obc, .inr (1, [.ref obc_0, .int o_2, .int o_3])), (obc_0, .inl (k 0, 8, .inl o_4)), (tn, .inr (10, [.int tnv0, .int tnv1, .int tnv2, .ref tn_3, .ref tn_4, .ref tn_5, .ref tn_6, .int tnv7, .int tnv8, .ref tn_9, .ref tn_10, .int tnv11, .ref tn_12, .ref tn_13, .ref tn_14, .ref tn_15, .int tnv16, .ref tn_17, .ref tn_18, .ref tnt])), (tn_3, .inl (k 0, 10, .inl tng3)), (tn_4, .inl (k 0, 10, .inl tng4)), (tn_5, .inl (k 0, 10, .inl tng5)), (tn_9, .inl (k 0, 4, .inl tng9)), (tn_10, .inl (k 0, 4, .inl tng10)), (ob_1, .inl (k 0, 8, .inl o_8)), (ob_0, .inl (k 0, 8, .inl o_12))] H1 := hP
  have hD : va_D A [(ob, .inr (4, [.ref ob_0, .ref ob_1, .ref obc, .ref obd])), (obd, .inr (1, [.ref obd_0, .int obdv1, .int obdv2])), (obd_0, .inl (k 0, 8, .inl obdg0)), (tn_17, .inl (k 0, 2, .inl tng17)), (tn_18, .inl (k 0, 2, .inl tng18)), (obc, .inr (1, [.ref obc_0, .int o_2, .int o_3])), (obc_0, .inl (k 0, 8, .inl o_4)), (tn, .inr (10, [.int tnv0, .int tnv1, .int tnv2, .ref tn_3, .ref tn_4, .ref tn_5, .ref tn_6, .int tnv7, .int tnv8, .ref tn_9, .ref tn_10, .int tnv11, .ref tn_12, .ref tn_13, .ref tn_14, .ref tn_15, .int tnv16, .ref tn_17, .ref tn_18, .ref tnt])), (tn_3, .inl (k 0, 10, .inl tng3)), (tn_4, .inl (k 0, 10, .inl tng4)), (tn_5, .inl (k 0, 10, .inl tng5)), (tn_9, .inl (k 0, 4, .inl tng9)), (tn_10, .inl (k 0, 4, .inl tng10)), (ob_1, .inl (k 0, 8, .inl o_8)), (ob_0, .inl (k 0, 8, .inl o_12))] := hD
  generalize H1 = H at hP hS ⊢
  have hw_13 : (PR 8 1 0 (-1) (-1) o_12) := hw
  have hw_14 := hw_13
  clear hw
  refine lv_iconst (v := 0) hx hb dX4_settle_25 (by decide) ?_
  refine lv_istore_n (lv' := [(2, .int 0), (0, .ref ob), (1, .ref tn)]) hx hb dX4_settle_26 rfl hl (by decide) rfl (fun ls hl => ?_)
  refine loop_r (Wg := fun H locs ls => W p l e _ s m _ below meth c H locs _ _ _ (F0 m 27 ls [])) (fun n9 H locs ls => ∃ (L27l2 : Int32) (L27f1x1 : Int32) (L27f1x2 : Int32) (L27a2 : Nat → Int32) (L27a13 : Nat → Int32) (L27a14 : Nat → Int32), n9 = (2 - L27l2.toInt).toNat ∧ (0 ≤ L27l2.toInt ∧ L27l2.toInt ≤ 2) ∧ (PR 8 1 0 0 1000000 L27a2) ∧ (PR 8 1 0 0 1000000 L27a13) ∧ va_P D vwCl [(ob, .inr (4, [.ref ob_0, .ref ob_1, .ref obc, .ref obd])), (obd, .inr (1, [.ref obd_0, .int L27f1x1, .int L27f1x2])), (obd_0, .inl (k 0, 8, .inl L27a2)), (tn_17, .inl (k 0, 2, .inl tng17)), (tn_18, .inl (k 0, 2, .inl tng18)), (obc, .inr (1, [.ref obc_0, .int o_2, .int o_3])), (obc_0, .inl (k 0, 8, .inl o_4)), (tn, .inr (10, [.int tnv0, .int tnv1, .int tnv2, .ref tn_3, .ref tn_4, .ref tn_5, .ref tn_6, .int tnv7, .int tnv8, .ref tn_9, .ref tn_10, .int tnv11, .ref tn_12, .ref tn_13, .ref tn_14, .ref tn_15, .int tnv16, .ref tn_17, .ref tn_18, .ref tnt])), (tn_3, .inl (k 0, 10, .inl tng3)), (tn_4, .inl (k 0, 10, .inl tng4)), (tn_5, .inl (k 0, 10, .inl tng5)), (tn_9, .inl (k 0, 4, .inl tng9)), (tn_10, .inl (k 0, 4, .inl tng10)), (ob_1, .inl (k 0, 8, .inl L27a13)), (ob_0, .inl (k 0, 8, .inl L27a14))] H ∧ va_D A [(ob, .inr (4, [.ref ob_0, .ref ob_1, .ref obc, .ref obd])), (obd, .inr (1, [.ref obd_0, .int L27f1x1, .int L27f1x2])), (obd_0, .inl (k 0, 8, .inl L27a2)), (tn_17, .inl (k 0, 2, .inl tng17)), (tn_18, .inl (k 0, 2, .inl tng18)), (obc, .inr (1, [.ref obc_0, .int o_2, .int o_3])), (obc_0, .inl (k 0, 8, .inl o_4)), (tn, .inr (10, [.int tnv0, .int tnv1, .int tnv2, .ref tn_3, .ref tn_4, .ref tn_5, .ref tn_6, .int tnv7, .int tnv8, .ref tn_9, .ref tn_10, .int tnv11, .ref tn_12, .ref tn_13, .ref tn_14, .ref tn_15, .int tnv16, .ref tn_17, .ref tn_18, .ref tnt])), (tn_3, .inl (k 0, 10, .inl tng3)), (tn_4, .inl (k 0, 10, .inl tng4)), (tn_5, .inl (k 0, 10, .inl tng5)), (tn_9, .inl (k 0, 4, .inl tng9)), (tn_10, .inl (k 0, 4, .inl tng10)), (ob_1, .inl (k 0, 8, .inl L27a13)), (ob_0, .inl (k 0, 8, .inl L27a14))] ∧ va_S A s.heap H locs ∧ lv_has ls 4 [(0, .ref ob), (1, .ref tn), (2, .int L27l2)]) (fun n9 H locs ls hI ih_15 => ?_) _ _ _ _ ⟨0, obdv1, obdv2, obdg0, o_8, o_12, rfl, (show 0 ≤ 0 ∧ 0 ≤ 2 from by omega), hp_obdg0_0, hw_10, hP.sub (ws' := [(ob, .inr (4, [.ref ob_0, .ref ob_1, .ref obc, .ref obd])), (obd, .inr (1, [.ref obd_0, .int obdv1, .int obdv2])), (obd_0, .inl (k 0, 8, .inl obdg0)), (tn_17, .inl (k 0, 2, .inl tng17)), (tn_18, .inl (k 0, 2, .inl tng18)), (obc, .inr (1, [.ref obc_0, .int o_2, .int o_3])), (obc_0, .inl (k 0, 8, .inl o_4)), (tn, .inr (10, [.int tnv0, .int tnv1, .int tnv2, .ref tn_3, .ref tn_4, .ref tn_5, .ref tn_6, .int tnv7, .int tnv8, .ref tn_9, .ref tn_10, .int tnv11, .ref tn_12, .ref tn_13, .ref tn_14, .ref tn_15, .int tnv16, .ref tn_17, .ref tn_18, .ref tnt])), (tn_3, .inl (k 0, 10, .inl tng3)), (tn_4, .inl (k 0, 10, .inl tng4)), (tn_5, .inl (k 0, 10, .inl tng5)), (tn_9, .inl (k 0, 4, .inl tng9)), (tn_10, .inl (k 0, 4, .inl tng10)), (ob_1, .inl (k 0, 8, .inl o_8)), (ob_0, .inl (k 0, 8, .inl o_12))]) [0, 1, 2, 3, 4, 5, 6, 7, 8, 9, 10, 11, 12, 13, 14] rfl, hD.sub (ws' := [(ob, .inr (4, [.ref ob_0, .ref ob_1, .ref obc, .ref obd])), (obd, .inr (1, [.ref obd_0, .int obdv1, .int obdv2])), (obd_0, .inl (k 0, 8, .inl obdg0)), (tn_17, .inl (k 0, 2, .inl tng17)), (tn_18, .inl (k 0, 2, .inl tng18)), (obc, .inr (1, [.ref obc_0, .int o_2, .int o_3])), (obc_0, .inl (k 0, 8, .inl o_4)), (tn, .inr (10, [.int tnv0, .int tnv1, .int tnv2, .ref tn_3, .ref tn_4, .ref tn_5, .ref tn_6, .int tnv7, .int tnv8, .ref tn_9, .ref tn_10, .int tnv11, .ref tn_12, .ref tn_13, .ref tn_14, .ref tn_15, .int tnv16, .ref tn_17, .ref tn_18, .ref tnt])), (tn_3, .inl (k 0, 10, .inl tng3)), (tn_4, .inl (k 0, 10, .inl tng4)), (tn_5, .inl (k 0, 10, .inl tng5)), (tn_9, .inl (k 0, 4, .inl tng9)), (tn_10, .inl (k 0, 4, .inl tng10)), (ob_1, .inl (k 0, 8, .inl o_8)), (ob_0, .inl (k 0, 8, .inl o_12))]) [0, 1, 2, 3, 4, 5, 6, 7, 8, 9, 10, 11, 12, 13, 14] (by decide +kernel) rfl, hS, lv_sub hl [1, 2, 0] rfl⟩
  clear hP hD hS hl
  obtain ⟨L27l2, L27f1x1, L27f1x2, L27a2, L27a13, L27a14, en_16, zL27l2, L27a2h0, L27a13h0, hP, hD, hS, hl⟩ := hI
  refine lv_iload_n hx hb dX4_settle_27 rfl (lv_at hl 2 rfl) ?_
  refine lv_aload_n hx hb dX4_settle_28 rfl (lv_at hl 1 rfl) ?_
  refine va_get (D := D) (ci := 10) (v := .int tnv16) (C := RX10) (T := TX10) (N := 20) hx hb hts iT_X10 hown hK hP 7 rfl rfl 16 (by decide) (hts _ tw_1_143) (fun _ h9 => h9) rfl dX4_settle_29 ?_
  refine lv_icmp_ge (tgt := 119) hx hb dX4_settle_32 (by decide) (fun h_17 => ?_) (fun h_17 => ?_)
  · skip
    have zh_17 : tnv16.toInt ≤ L27l2.toInt := z_le h_17
    refine lv_iconst (v := 0) hx hb dX4_settle_119 (by decide) ?_
    refine lv_istore_n (lv' := [(2, .int 0), (0, .ref ob), (1, .ref tn)]) hx hb dX4_settle_120 rfl hl (by decide) rfl (fun ls hl => ?_)
    refine loop_r (Wg := fun H locs ls => W p l e _ s m _ below meth c H locs _ _ _ (F0 m 121 ls [])) (fun n9 H locs ls => ∃ (L121l2 : Int32) (L121a14 : Nat → Int32), n9 = (8 - L121l2.toInt).toNat ∧ (0 ≤ L121l2.toInt ∧ L121l2.toInt ≤ 8) ∧ va_P D vwCl [(ob, .inr (4, [.ref ob_0, .ref ob_1, .ref obc, .ref obd])), (obd, .inr (1, [.ref obd_0, .int L27f1x1, .int L27f1x2])), (obd_0, .inl (k 0, 8, .inl L27a2)), (tn_17, .inl (k 0, 2, .inl tng17)), (tn_18, .inl (k 0, 2, .inl tng18)), (obc, .inr (1, [.ref obc_0, .int o_2, .int o_3])), (obc_0, .inl (k 0, 8, .inl o_4)), (tn, .inr (10, [.int tnv0, .int tnv1, .int tnv2, .ref tn_3, .ref tn_4, .ref tn_5, .ref tn_6, .int tnv7, .int tnv8, .ref tn_9, .ref tn_10, .int tnv11, .ref tn_12, .ref tn_13, .ref tn_14, .ref tn_15, .int tnv16, .ref tn_17, .ref tn_18, .ref tnt])), (tn_3, .inl (k 0, 10, .inl tng3)), (tn_4, .inl (k 0, 10, .inl tng4)), (tn_5, .inl (k 0, 10, .inl tng5)), (tn_9, .inl (k 0, 4, .inl tng9)), (tn_10, .inl (k 0, 4, .inl tng10)), (ob_1, .inl (k 0, 8, .inl L27a13)), (ob_0, .inl (k 0, 8, .inl L121a14))] H ∧ va_D A [(ob, .inr (4, [.ref ob_0, .ref ob_1, .ref obc, .ref obd])), (obd, .inr (1, [.ref obd_0, .int L27f1x1, .int L27f1x2])), (obd_0, .inl (k 0, 8, .inl L27a2)), (tn_17, .inl (k 0, 2, .inl tng17)), (tn_18, .inl (k 0, 2, .inl tng18)), (obc, .inr (1, [.ref obc_0, .int o_2, .int o_3])), (obc_0, .inl (k 0, 8, .inl o_4)), (tn, .inr (10, [.int tnv0, .int tnv1, .int tnv2, .ref tn_3, .ref tn_4, .ref tn_5, .ref tn_6, .int tnv7, .int tnv8, .ref tn_9, .ref tn_10, .int tnv11, .ref tn_12, .ref tn_13, .ref tn_14, .ref tn_15, .int tnv16, .ref tn_17, .ref tn_18, .ref tnt])), (tn_3, .inl (k 0, 10, .inl tng3)), (tn_4, .inl (k 0, 10, .inl tng4)), (tn_5, .inl (k 0, 10, .inl tng5)), (tn_9, .inl (k 0, 4, .inl tng9)), (tn_10, .inl (k 0, 4, .inl tng10)), (ob_1, .inl (k 0, 8, .inl L27a13)), (ob_0, .inl (k 0, 8, .inl L121a14))] ∧ va_S A s.heap H locs ∧ lv_has ls 4 [(0, .ref ob), (1, .ref tn), (2, .int L121l2)]) (fun n9 H locs ls hI ih_18 => ?_) _ _ _ _ ⟨0, L27a14, rfl, (show 0 ≤ 0 ∧ 0 ≤ 8 from by omega), hP.sub (ws' := [(ob, .inr (4, [.ref ob_0, .ref ob_1, .ref obc, .ref obd])), (obd, .inr (1, [.ref obd_0, .int L27f1x1, .int L27f1x2])), (obd_0, .inl (k 0, 8, .inl L27a2)), (tn_17, .inl (k 0, 2, .inl tng17)), (tn_18, .inl (k 0, 2, .inl tng18)), (obc, .inr (1, [.ref obc_0, .int o_2, .int o_3])), (obc_0, .inl (k 0, 8, .inl o_4)), (tn, .inr (10, [.int tnv0, .int tnv1, .int tnv2, .ref tn_3, .ref tn_4, .ref tn_5, .ref tn_6, .int tnv7, .int tnv8, .ref tn_9, .ref tn_10, .int tnv11, .ref tn_12, .ref tn_13, .ref tn_14, .ref tn_15, .int tnv16, .ref tn_17, .ref tn_18, .ref tnt])), (tn_3, .inl (k 0, 10, .inl tng3)), (tn_4, .inl (k 0, 10, .inl tng4)), (tn_5, .inl (k 0, 10, .inl tng5)), (tn_9, .inl (k 0, 4, .inl tng9)), (tn_10, .inl (k 0, 4, .inl tng10)), (ob_1, .inl (k 0, 8, .inl L27a13)), (ob_0, .inl (k 0, 8, .inl L27a14))]) [0, 1, 2, 3, 4, 5, 6, 7, 8, 9, 10, 11, 12, 13, 14] rfl, hD.sub (ws' := [(ob, .inr (4, [.ref ob_0, .ref ob_1, .ref obc, .ref obd])), (obd, .inr (1, [.ref obd_0, .int L27f1x1, .int L27f1x2])), (obd_0, .inl (k 0, 8, .inl L27a2)), (tn_17, .inl (k 0, 2, .inl tng17)), (tn_18, .inl (k 0, 2, .inl tng18)), (obc, .inr (1, [.ref obc_0, .int o_2, .int o_3])), (obc_0, .inl (k 0, 8, .inl o_4)), (tn, .inr (10, [.int tnv0, .int tnv1, .int tnv2, .ref tn_3, .ref tn_4, .ref tn_5, .ref tn_6, .int tnv7, .int tnv8, .ref tn_9, .ref tn_10, .int tnv11, .ref tn_12, .ref tn_13, .ref tn_14, .ref tn_15, .int tnv16, .ref tn_17, .ref tn_18, .ref tnt])), (tn_3, .inl (k 0, 10, .inl tng3)), (tn_4, .inl (k 0, 10, .inl tng4)), (tn_5, .inl (k 0, 10, .inl tng5)), (tn_9, .inl (k 0, 4, .inl tng9)), (tn_10, .inl (k 0, 4, .inl tng10)), (ob_1, .inl (k 0, 8, .inl L27a13)), (ob_0, .inl (k 0, 8, .inl L27a14))]) [0, 1, 2, 3, 4, 5, 6, 7, 8, 9, 10, 11, 12, 13, 14] (by decide +kernel) rfl, hS, lv_sub hl [1, 2, 0] rfl⟩
    clear hP hD hS hl
    obtain ⟨L121l2, L121a14, en_19, zL121l2, hP, hD, hS, hl⟩ := hI
    refine lv_iload_n hx hb dX4_settle_121 rfl (lv_at hl 2 rfl) ?_
    refine lv_aload_n hx hb dX4_settle_122 rfl (lv_at hl 1 rfl) ?_
    refine va_get (D := D) (ci := 10) (v := .int tnv0) (C := RX10) (T := TX10) (N := 20) hx hb hts iT_X10 hown hK hP 7 rfl rfl 0 (by decide) (hts _ tw_1_69) (fun _ h9 => h9) rfl dX4_settle_123 ?_
    refine lv_icmp_ge (tgt := 174) hx hb dX4_settle_126 (by decide) (fun h_20 => ?_) (fun h_20 => ?_)
    · skip
      have zh_20 : tnv0.toInt ≤ L121l2.toInt := z_le h_20
      obtain ⟨hP9, hD9⟩ := sub2 hP hD (ws' := [(ob, .inr (4, [.ref ob_0, .ref ob_1, .ref obc, .ref obd])), (ob_0, .inl (k 0, 8, .inl L121a14)), (ob_1, .inl (k 0, 8, .inl L27a13)), (obc, .inr (1, [.ref obc_0, .int o_2, .int o_3])), (obc_0, .inl (k 0, 8, .inl o_4)), (obd, .inr (1, [.ref obd_0, .int L27f1x1, .int L27f1x2])), (obd_0, .inl (k 0, 8, .inl L27a2)), (tn, .inr (10, [.int tnv0, .int tnv1, .int tnv2, .ref tn_3, .ref tn_4, .ref tn_5, .ref tn_6, .int tnv7, .int tnv8, .ref tn_9, .ref tn_10, .int tnv11, .ref tn_12, .ref tn_13, .ref tn_14, .ref tn_15, .int tnv16, .ref tn_17, .ref tn_18, .ref tnt])), (tn_3, .inl (k 0, 10, .inl tng3)), (tn_4, .inl (k 0, 10, .inl tng4)), (tn_5, .inl (k 0, 10, .inl tng5)), (tn_9, .inl (k 0, 4, .inl tng9)), (tn_10, .inl (k 0, 4, .inl tng10)), (tn_17, .inl (k 0, 2, .inl tng17)), (tn_18, .inl (k 0, 2, .inl tng18))]) [0, 14, 13, 5, 6, 1, 2, 7, 8, 9, 10, 11, 12, 3, 4] (by decide +kernel) rfl
      exact W.vret hx hb hr (fun tZ ht hW => ⟨⟨(L121a14, L27a13, o_2, o_3, o_4, L27f1x1, L27f1x2, L27a2), rfl, ⟨L27a13h0, hw_6, L27a2h0⟩, by rw [ht]; exact hP9, va_K.moved hW.alike hK, hD9⟩, hS.F ht⟩) hS.2.2 dX4_settle_174
    · skip
      have zh_20 : L121l2.toInt < tnv0.toInt := z_nle h_20
      refine lv_aload_n hx hb dX4_settle_129 rfl (lv_at hl 0 rfl) ?_
      refine va_get (D := D) (ci := 4) (v := .ref obc) (C := RX4) (T := TX4) (N := 4) hx hb hts iT_X4 hown hK hP 0 rfl rfl 2 (by decide) (hts _ tw_2_45) (fun _ h9 => h9) rfl dX4_settle_130 ?_
      refine va_get (D := D) (ci := 1) (v := .ref obc_0) (C := RX1) (T := TX1) (N := 3) hx hb hts iT_X1 hown hK hP 5 rfl rfl 0 (by decide) (hts _ tw_2_19) (fun _ h9 => h9) rfl dX4_settle_133 ?_
      refine lv_iload_n hx hb dX4_settle_136 rfl (lv_at hl 2 rfl) ?_
      refine va_iald hx hb hK hP 6 0 rfl rfl (z_in (by omega) (by omega)) dX4_settle_137 ?_
      refine lv_topi (fun x_21 ex_21 => ?_)
      have zx_21r0 : 0 ≤ x_21.toInt ∧ x_21.toInt ≤ 1000000 := by rw [ex_21]; exact PR.ld hw_6 (by omega) (by omega) (by omega)
      refine lv_ldc (v := 1000000) hx hb hown (hts _ tw_4_45) dX4_settle_138 ?_
      refine lv_icmp_ge (tgt := 168) hx hb dX4_settle_140 (by decide) (fun h_22 => ?_) (fun h_22 => ?_)
      · skip
        have zh_22 : 1000000 ≤ x_21.toInt := z_le h_22
        obtain ⟨x_23, ex_23⟩ : ∃ y : Int32, y = L121l2 + 1 := ⟨_, rfl⟩
        have zx_23 : x_23.toInt = L121l2.toInt + 1 := by rw [ex_23]; exact z_add rfl rfl (by omega) (by omega)
        refine lv_iinc (v := x_23) (lv' := [(2, .int x_23), (0, .ref ob), (1, .ref tn)]) hx hb dX4_settle_168 hl (k := 2) rfl (by rw [ex_23]; rfl) (by decide) rfl (fun ls hl => ?_)
        refine lv_goto (tgt := 121) hx hb dX4_settle_171 (by decide) ?_
        exact ih_18 _ _ _ _ (by omega) ⟨x_23, L121a14, rfl, (show 0 ≤ x_23.toInt ∧ x_23.toInt ≤ 8 from by omega), hP.sub (ws' := [(ob, .inr (4, [.ref ob_0, .ref ob_1, .ref obc, .ref obd])), (obd, .inr (1, [.ref obd_0, .int L27f1x1, .int L27f1x2])), (obd_0, .inl (k 0, 8, .inl L27a2)), (tn_17, .inl (k 0, 2, .inl tng17)), (tn_18, .inl (k 0, 2, .inl tng18)), (obc, .inr (1, [.ref obc_0, .int o_2, .int o_3])), (obc_0, .inl (k 0, 8, .inl o_4)), (tn, .inr (10, [.int tnv0, .int tnv1, .int tnv2, .ref tn_3, .ref tn_4, .ref tn_5, .ref tn_6, .int tnv7, .int tnv8, .ref tn_9, .ref tn_10, .int tnv11, .ref tn_12, .ref tn_13, .ref tn_14, .ref tn_15, .int tnv16, .ref tn_17, .ref tn_18, .ref tnt])), (tn_3, .inl (k 0, 10, .inl tng3)), (tn_4, .inl (k 0, 10, .inl tng4)), (tn_5, .inl (k 0, 10, .inl tng5)), (tn_9, .inl (k 0, 4, .inl tng9)), (tn_10, .inl (k 0, 4, .inl tng10)), (ob_1, .inl (k 0, 8, .inl L27a13)), (ob_0, .inl (k 0, 8, .inl L121a14))]) [0, 1, 2, 3, 4, 5, 6, 7, 8, 9, 10, 11, 12, 13, 14] rfl, hD.sub (ws' := [(ob, .inr (4, [.ref ob_0, .ref ob_1, .ref obc, .ref obd])), (obd, .inr (1, [.ref obd_0, .int L27f1x1, .int L27f1x2])), (obd_0, .inl (k 0, 8, .inl L27a2)), (tn_17, .inl (k 0, 2, .inl tng17)), (tn_18, .inl (k 0, 2, .inl tng18)), (obc, .inr (1, [.ref obc_0, .int o_2, .int o_3])), (obc_0, .inl (k 0, 8, .inl o_4)), (tn, .inr (10, [.int tnv0, .int tnv1, .int tnv2, .ref tn_3, .ref tn_4, .ref tn_5, .ref tn_6, .int tnv7, .int tnv8, .ref tn_9, .ref tn_10, .int tnv11, .ref tn_12, .ref tn_13, .ref tn_14, .ref tn_15, .int tnv16, .ref tn_17, .ref tn_18, .ref tnt])), (tn_3, .inl (k 0, 10, .inl tng3)), (tn_4, .inl (k 0, 10, .inl tng4)), (tn_5, .inl (k 0, 10, .inl tng5)), (tn_9, .inl (k 0, 4, .inl tng9)), (tn_10, .inl (k 0, 4, .inl tng10)), (ob_1, .inl (k 0, 8, .inl L27a13)), (ob_0, .inl (k 0, 8, .inl L121a14))]) [0, 1, 2, 3, 4, 5, 6, 7, 8, 9, 10, 11, 12, 13, 14] (by decide +kernel) rfl, hS, lv_sub hl [1, 2, 0] rfl⟩
      · skip
        have zh_22 : x_21.toInt < 1000000 := z_nle h_22
        refine lv_aload_n hx hb dX4_settle_143 rfl (lv_at hl 0 rfl) ?_
        refine va_get (D := D) (ci := 4) (v := .ref obc) (C := RX4) (T := TX4) (N := 4) hx hb hts iT_X4 hown hK hP 0 rfl rfl 2 (by decide) (hts _ tw_2_45) (fun _ h9 => h9) rfl dX4_settle_144 ?_
        refine va_get (D := D) (ci := 1) (v := .ref obc_0) (C := RX1) (T := TX1) (N := 3) hx hb hts iT_X1 hown hK hP 5 rfl rfl 0 (by decide) (hts _ tw_2_19) (fun _ h9 => h9) rfl dX4_settle_147 ?_
        refine lv_iload_n hx hb dX4_settle_150 rfl (lv_at hl 2 rfl) ?_
        refine va_iald hx hb hK hP 6 0 rfl rfl (z_in (by omega) (by omega)) dX4_settle_151 ?_
        refine lv_topi (fun x_24 ex_24 => ?_)
        obtain rfl : x_21 = x_24 := ex_21.trans ex_24.symm
        refine lv_aload_n hx hb dX4_settle_152 rfl (lv_at hl 0 rfl) ?_
        refine va_get (D := D) (ci := 4) (v := .ref ob_1) (C := RX4) (T := TX4) (N := 4) hx hb hts iT_X4 hown hK hP 0 rfl rfl 1 (by decide) (hts _ tw_2_43) (fun _ h9 => h9) rfl dX4_settle_153 ?_
        refine lv_iload_n hx hb dX4_settle_156 rfl (lv_at hl 2 rfl) ?_
        refine va_iald hx hb hK hP 13 0 rfl rfl (z_in (by omega) (by omega)) dX4_settle_157 ?_
        refine lv_topi (fun x_25 ex_25 => ?_)
        have zx_25r0 : 0 ≤ x_25.toInt ∧ x_25.toInt ≤ 1000000 := by rw [ex_25]; exact PR.ld L27a13h0 (by omega) (by omega) (by omega)
        refine lv_icmp_gt (tgt := 168) hx hb dX4_settle_158 (by decide) (fun h_26 => ?_) (fun h_26 => ?_)
        · skip
          have zh_26 : x_25.toInt < x_21.toInt := z_lt h_26
          obtain ⟨x_27, ex_27⟩ : ∃ y : Int32, y = L121l2 + 1 := ⟨_, rfl⟩
          have zx_27 : x_27.toInt = L121l2.toInt + 1 := by rw [ex_27]; exact z_add rfl rfl (by omega) (by omega)
          refine lv_iinc (v := x_27) (lv' := [(2, .int x_27), (0, .ref ob), (1, .ref tn)]) hx hb dX4_settle_168 hl (k := 2) rfl (by rw [ex_27]; rfl) (by decide) rfl (fun ls hl => ?_)
          refine lv_goto (tgt := 121) hx hb dX4_settle_171 (by decide) ?_
          exact ih_18 _ _ _ _ (by omega) ⟨x_27, L121a14, rfl, (show 0 ≤ x_27.toInt ∧ x_27.toInt ≤ 8 from by omega), hP.sub (ws' := [(ob, .inr (4, [.ref ob_0, .ref ob_1, .ref obc, .ref obd])), (obd, .inr (1, [.ref obd_0, .int L27f1x1, .int L27f1x2])), (obd_0, .inl (k 0, 8, .inl L27a2)), (tn_17, .inl (k 0, 2, .inl tng17)), (tn_18, .inl (k 0, 2, .inl tng18)), (obc, .inr (1, [.ref obc_0, .int o_2, .int o_3])), (obc_0, .inl (k 0, 8, .inl o_4)), (tn, .inr (10, [.int tnv0, .int tnv1, .int tnv2, .ref tn_3, .ref tn_4, .ref tn_5, .ref tn_6, .int tnv7, .int tnv8, .ref tn_9, .ref tn_10, .int tnv11, .ref tn_12, .ref tn_13, .ref tn_14, .ref tn_15, .int tnv16, .ref tn_17, .ref tn_18, .ref tnt])), (tn_3, .inl (k 0, 10, .inl tng3)), (tn_4, .inl (k 0, 10, .inl tng4)), (tn_5, .inl (k 0, 10, .inl tng5)), (tn_9, .inl (k 0, 4, .inl tng9)), (tn_10, .inl (k 0, 4, .inl tng10)), (ob_1, .inl (k 0, 8, .inl L27a13)), (ob_0, .inl (k 0, 8, .inl L121a14))]) [0, 1, 2, 3, 4, 5, 6, 7, 8, 9, 10, 11, 12, 13, 14] rfl, hD.sub (ws' := [(ob, .inr (4, [.ref ob_0, .ref ob_1, .ref obc, .ref obd])), (obd, .inr (1, [.ref obd_0, .int L27f1x1, .int L27f1x2])), (obd_0, .inl (k 0, 8, .inl L27a2)), (tn_17, .inl (k 0, 2, .inl tng17)), (tn_18, .inl (k 0, 2, .inl tng18)), (obc, .inr (1, [.ref obc_0, .int o_2, .int o_3])), (obc_0, .inl (k 0, 8, .inl o_4)), (tn, .inr (10, [.int tnv0, .int tnv1, .int tnv2, .ref tn_3, .ref tn_4, .ref tn_5, .ref tn_6, .int tnv7, .int tnv8, .ref tn_9, .ref tn_10, .int tnv11, .ref tn_12, .ref tn_13, .ref tn_14, .ref tn_15, .int tnv16, .ref tn_17, .ref tn_18, .ref tnt])), (tn_3, .inl (k 0, 10, .inl tng3)), (tn_4, .inl (k 0, 10, .inl tng4)), (tn_5, .inl (k 0, 10, .inl tng5)), (tn_9, .inl (k 0, 4, .inl tng9)), (tn_10, .inl (k 0, 4, .inl tng10)), (ob_1, .inl (k 0, 8, .inl L27a13)), (ob_0, .inl (k 0, 8, .inl L121a14))]) [0, 1, 2, 3, 4, 5, 6, 7, 8, 9, 10, 11, 12, 13, 14] (by decide +kernel) rfl, hS, lv_sub hl [1, 2, 0] rfl⟩
        · skip
          have zh_26 : x_21.toInt ≤ x_25.toInt := z_nlt h_26
          refine lv_aload_n hx hb dX4_settle_161 rfl (lv_at hl 0 rfl) ?_
          refine va_get (D := D) (ci := 4) (v := .ref ob_0) (C := RX4) (T := TX4) (N := 4) hx hb hts iT_X4 hown hK hP 0 rfl rfl 0 (by decide) (hts _ tw_2_41) (fun _ h9 => h9) rfl dX4_settle_162 ?_
          refine lv_iload_n hx hb dX4_settle_165 rfl (lv_at hl 2 rfl) ?_
          refine lv_iconst (v := 0) hx hb dX4_settle_166 (by decide) ?_
          refine va_iast hx hb hK hP hD hS 14 0 rfl rfl (z_in (by omega) (by omega)) dX4_settle_167 (fun H locs hP hD hS => ?_)
          obtain ⟨g_28, eg_28⟩ : ∃ z : Nat → Int32, upd L121a14 L121l2.toNatClampNeg 0 = z := ⟨_, rfl⟩
          have hP : va_P D vwCl [(ob, .inr (4, [.ref ob_0, .ref ob_1, .ref obc, .ref obd])), (obd, .inr (1, [.ref obd_0, .int L27f1x1, .int L27f1x2])), (obd_0, .inl (k 0, 8, .inl L27a2)), (tn_17, .inl (k 0, 2, .inl tng17)), (tn_18, .inl (k 0, 2, .inl tng18)), (obc, .inr (1, [.ref obc_0, .int o_2, .int o_3])), (obc_0, .inl (k 0, 8, .inl o_4)), (tn, .inr (10, [.int tnv0, .int tnv1, .int tnv2, .ref tn_3, .ref tn_4, .ref tn_5, .ref tn_6, .int tnv7, .int tnv8, .ref tn_9, .ref tn_10, .int tnv11, .ref tn_12, .ref tn_13, .ref tn_14, .ref tn_15, .int tnv16, .ref tn_17, .ref tn_18, .ref tnt])), (tn_3, .inl (k 0, 10, .inl tng3)), (tn_4, .inl (k 0, 10, .inl tng4)), (tn_5, .inl (k 0, 10, .inl tng5)), (tn_9, .inl (k 0, 4, .inl tng9)), (tn_10, .inl (k 0, 4, .inl tng10)), (ob_1, .inl (k 0, 8, .inl L27a13)), (ob_0, .inl (k 0, 8, .inl (upd L121a14 L121l2.toNatClampNeg 0)))] H := hP
          have hD : va_D A [(ob, .inr (4, [.ref ob_0, .ref ob_1, .ref obc, .ref obd])), (obd, .inr (1, [.ref obd_0, .int L27f1x1, .int L27f1x2])), (obd_0, .inl (k 0, 8, .inl L27a2)), (tn_17, .inl (k 0, 2, .inl tng17)), (tn_18, .inl (k 0, 2, .inl tng18)), (obc, .inr (1, [.ref obc_0, .int o_2, .int o_3])), (obc_0, .inl (k 0, 8, .inl o_4)), (tn, .inr (10, [.int tnv0, .int tnv1, .int tnv2, .ref tn_3, .ref tn_4, .ref tn_5, .ref tn_6, .int tnv7, .int tnv8, .ref tn_9, .ref tn_10, .int tnv11, .ref tn_12, .ref tn_13, .ref tn_14, .ref tn_15, .int tnv16, .ref tn_17, .ref tn_18, .ref tnt])), (tn_3, .inl (k 0, 10, .inl tng3)), (tn_4, .inl (k 0, 10, .inl tng4)), (tn_5, .inl (k 0, 10, .inl tng5)), (tn_9, .inl (k 0, 4, .inl tng9)), (tn_10, .inl (k 0, 4, .inl tng10)), (ob_1, .inl (k 0, 8, .inl L27a13)), (ob_0, .inl (k 0, 8, .inl (upd L121a14 L121l2.toNatClampNeg 0)))] := hD
          rw [eg_28] at hP hD
          obtain ⟨x_29, ex_29⟩ : ∃ y : Int32, y = L121l2 + 1 := ⟨_, rfl⟩
          have zx_29 : x_29.toInt = L121l2.toInt + 1 := by rw [ex_29]; exact z_add rfl rfl (by omega) (by omega)
          refine lv_iinc (v := x_29) (lv' := [(2, .int x_29), (0, .ref ob), (1, .ref tn)]) hx hb dX4_settle_168 hl (k := 2) rfl (by rw [ex_29]; rfl) (by decide) rfl (fun ls hl => ?_)
          refine lv_goto (tgt := 121) hx hb dX4_settle_171 (by decide) ?_
          exact ih_18 _ _ _ _ (by omega) ⟨x_29, g_28, rfl, (show 0 ≤ x_29.toInt ∧ x_29.toInt ≤ 8 from by omega), hP.sub (ws' := [(ob, .inr (4, [.ref ob_0, .ref ob_1, .ref obc, .ref obd])), (obd, .inr (1, [.ref obd_0, .int L27f1x1, .int L27f1x2])), (obd_0, .inl (k 0, 8, .inl L27a2)), (tn_17, .inl (k 0, 2, .inl tng17)), (tn_18, .inl (k 0, 2, .inl tng18)), (obc, .inr (1, [.ref obc_0, .int o_2, .int o_3])), (obc_0, .inl (k 0, 8, .inl o_4)), (tn, .inr (10, [.int tnv0, .int tnv1, .int tnv2, .ref tn_3, .ref tn_4, .ref tn_5, .ref tn_6, .int tnv7, .int tnv8, .ref tn_9, .ref tn_10, .int tnv11, .ref tn_12, .ref tn_13, .ref tn_14, .ref tn_15, .int tnv16, .ref tn_17, .ref tn_18, .ref tnt])), (tn_3, .inl (k 0, 10, .inl tng3)), (tn_4, .inl (k 0, 10, .inl tng4)), (tn_5, .inl (k 0, 10, .inl tng5)), (tn_9, .inl (k 0, 4, .inl tng9)), (tn_10, .inl (k 0, 4, .inl tng10)), (ob_1, .inl (k 0, 8, .inl L27a13)), (ob_0, .inl (k 0, 8, .inl g_28))]) [0, 1, 2, 3, 4, 5, 6, 7, 8, 9, 10, 11, 12, 13, 14] rfl, hD.sub (ws' := [(ob, .inr (4, [.ref ob_0, .ref ob_1, .ref obc, .ref obd])), (obd, .inr (1, [.ref obd_0, .int L27f1x1, .int L27f1x2])), (obd_0, .inl (k 0, 8, .inl L27a2)), (tn_17, .inl (k 0, 2, .inl tng17)), (tn_18, .inl (k 0, 2, .inl tng18)), (obc, .inr (1, [.ref obc_0, .int o_2, .int o_3])), (obc_0, .inl (k 0, 8, .inl o_4)), (tn, .inr (10, [.int tnv0, .int tnv1, .int tnv2, .ref tn_3, .ref tn_4, .ref tn_5, .ref tn_6, .int tnv7, .int tnv8, .ref tn_9, .ref tn_10, .int tnv11, .ref tn_12, .ref tn_13, .ref tn_14, .ref tn_15, .int tnv16, .ref tn_17, .ref tn_18, .ref tnt])), (tn_3, .inl (k 0, 10, .inl tng3)), (tn_4, .inl (k 0, 10, .inl tng4)), (tn_5, .inl (k 0, 10, .inl tng5)), (tn_9, .inl (k 0, 4, .inl tng9)), (tn_10, .inl (k 0, 4, .inl tng10)), (ob_1, .inl (k 0, 8, .inl L27a13)), (ob_0, .inl (k 0, 8, .inl g_28))]) [0, 1, 2, 3, 4, 5, 6, 7, 8, 9, 10, 11, 12, 13, 14] (by decide +kernel) rfl, hS, lv_sub hl [1, 2, 0] rfl⟩
  · skip
    have zh_17 : L27l2.toInt < tnv16.toInt := z_nle h_17
    refine lv_aload_n hx hb dX4_settle_35 rfl (lv_at hl 0 rfl) ?_
    refine va_get (D := D) (ci := 4) (v := .ref obd) (C := RX4) (T := TX4) (N := 4) hx hb hts iT_X4 hown hK hP 0 rfl rfl 3 (by decide) (hts _ tw_2_46) (fun _ h9 => h9) rfl dX4_settle_36 ?_
    refine lv_aload_n hx hb dX4_settle_39 rfl (lv_at hl 1 rfl) ?_
    refine lv_aload_n hx hb dX4_settle_40 rfl (lv_at hl 1 rfl) ?_
    refine va_get (D := D) (ci := 10) (v := .ref tn_17) (C := RX10) (T := TX10) (N := 20) hx hb hts iT_X10 hown hK hP 7 rfl rfl 17 (by decide) (hts _ tw_1_147) (fun _ h9 => h9) rfl dX4_settle_41 ?_
    refine lv_iload_n hx hb dX4_settle_44 rfl (lv_at hl 2 rfl) ?_
    refine va_iald hx hb hK hP 3 0 rfl rfl (z_in (by omega) (by omega)) dX4_settle_45 ?_
    refine lv_topi (fun x_30 ex_30 => ?_)
    have zx_30r0 : 0 ≤ x_30.toInt ∧ x_30.toInt ≤ 7 := by rw [ex_30]; exact PR.ld hp_tng17_0 (by omega) (by omega) (by omega)
    refine lv_aload_n hx hb dX4_settle_46 rfl (lv_at hl 1 rfl) ?_
    refine va_get (D := D) (ci := 10) (v := .ref tn_18) (C := RX10) (T := TX10) (N := 20) hx hb hts iT_X10 hown hK hP 7 rfl rfl 18 (by decide) (hts _ tw_1_150) (fun _ h9 => h9) rfl dX4_settle_47 ?_
    refine lv_iload_n hx hb dX4_settle_50 rfl (lv_at hl 2 rfl) ?_
    refine va_iald hx hb hK hP 4 0 rfl rfl (z_in (by omega) (by omega)) dX4_settle_51 ?_
    refine lv_topi (fun x_31 ex_31 => ?_)
    have zx_31r0 : 0 ≤ x_31.toInt ∧ x_31.toInt ≤ 999 := by rw [ex_31]; exact PR.ld hp_tng18_0 (by omega) (by omega) (by omega)
    obtain ⟨hPc, hDc, hFc⟩ := sub3 hP hD hS hA (ws' := [(obd, .inr (1, [.ref obd_0, .int L27f1x1, .int L27f1x2])), (obd_0, .inl (k 0, 8, .inl L27a2)), (tn, .inr (10, [.int tnv0, .int tnv1, .int tnv2, .ref tn_3, .ref tn_4, .ref tn_5, .ref tn_6, .int tnv7, .int tnv8, .ref tn_9, .ref tn_10, .int tnv11, .ref tn_12, .ref tn_13, .ref tn_14, .ref tn_15, .int tnv16, .ref tn_17, .ref tn_18, .ref tnt])), (tn_3, .inl (k 0, 10, .inl tng3)), (tn_4, .inl (k 0, 10, .inl tng4)), (tn_5, .inl (k 0, 10, .inl tng5))]) [1, 2, 7, 8, 9, 10] (by decide +kernel) rfl
    refine va_callv (va_runV (C := RX1) (As := [.ref tn, .int x_30, .int x_31]) (rest := []) ⟨hx, hb, hml, hown, hts⟩ (c_X1_fallFrom l D k obd tn x_30 x_31 obd_0 L27f1x1 L27f1x2 L27a2 tnv0 tnv1 tnv2 tn_3 tn_4 tn_5 tn_6 tnv7 tnv8 tn_9 tn_10 tnv11 tn_12 tn_13 tn_14 tn_15 tnv16 tn_17 tn_18 tnt tng3 tng4 tng5 H.size (show 0 ≤ x_31.toInt ∧ x_31.toInt ≤ 999 from by omega) L27a2h0 (show 0 ≤ tnv0.toInt ∧ tnv0.toInt ≤ 8 from by omega) (show 0 ≤ tnv2.toInt ∧ tnv2.toInt ≤ 10 from by omega) (show 0 ≤ tnv8.toInt ∧ tnv8.toInt ≤ 4 from by omega) (show 0 ≤ tnv11.toInt ∧ tnv11.toInt ≤ 6 from by omega) (show 0 ≤ tnv16.toInt ∧ tnv16.toInt ≤ 2 from by omega) hp_tng3_0 hp_tng4_0 hp_tng5_0) (cwV 3 hts (gV tw_4_47 tw_3_216 tw_3_217 tw_1_6 tw_3_218) rfl rfl rfl hdV_X1_fallFrom ⟨Nat.le_of_ble_eq_true rfl, Nat.le_of_ble_eq_true rfl⟩) (cz_V hK hPc hDc hN (ci := 1) (q0 := 0) rfl rfl [.ref tn, .int x_30, .int x_31]) rfl rfl hl.1 rfl (lv_room (Nat.le_of_ble_eq_true rfl)) dX4_settle_52 ⟨Nat.le_of_ble_eq_true rfl, Nat.le_of_ble_eq_true rfl⟩) hS (fun q _ h => hFc q h) hFc (fun uZ tZ H1 locs ht hvm hw hB hz1 hk1 hS => ?_)
    obtain ⟨o_33, o_34, o_35⟩ := uZ
    obtain ⟨hP1, hK1, hD1⟩ := hB
    rw [ht] at hP1
    obtain ⟨hP, hD⟩ := va_join (wr := [(ob, .inr (4, [.ref ob_0, .ref ob_1, .ref obc, .ref obd])), (tn_17, .inl (k 0, 2, .inl tng17)), (tn_18, .inl (k 0, 2, .inl tng18)), (obc, .inr (1, [.ref obc_0, .int o_2, .int o_3])), (obc_0, .inl (k 0, 8, .inl o_4)), (tn_9, .inl (k 0, 4, .inl tng9)), (tn_10, .inl (k 0, 4, .inl tng10)), (ob_1, .inl (k 0, 8, .inl L27a13)), (ob_0, .inl (k 0, 8, .inl L27a14))]) (w1 := [(obd, .inr (1, [.ref obd_0, .int o_33, .int o_34])), (obd_0, .inl (k 0, 8, .inl o_35)), (tn, .inr (10, [.int tnv0, .int tnv1, .int tnv2, .ref tn_3, .ref tn_4, .ref tn_5, .ref tn_6, .int tnv7, .int tnv8, .ref tn_9, .ref tn_10, .int tnv11, .ref tn_12, .ref tn_13, .ref tn_14, .ref tn_15, .int tnv16, .ref tn_17, .ref tn_18, .ref tnt])), (tn_3, .inl (k 0, 10, .inl tng3)), (tn_4, .inl (k 0, 10, .inl tng4)), (tn_5, .inl (k 0, 10, .inl tng5))]) hP hD [1, 2, 7, 8, 9, 10] [0, 3, 4, 5, 6, 11, 12, 13, 14] rfl rfl (by decide +kernel) (by decide +kernel) hk1 hFc hP1 hD1
    clear hK1 hP1 hD1 hPc hDc hFc
    clear hk1 hz1 ht hvm
    have hP : va_P D vwCl [(ob, .inr (4, [.ref ob_0, .ref ob_1, .ref obc, .ref obd])), (tn_17, .inl (k 0, 2, .inl tng17)), (tn_18, .inl (k 0, 2, .inl tng18)), (obc, .inr (1, [.ref obc_0, .int o_2, .int o_3])), (obc_0, .inl (k 0, 8, .inl o_4)), (tn_9, .inl (k 0, 4, .inl tng9)), (tn_10, .inl (k 0, 4, .inl tng10)), (ob_1, .inl (k 0, 8, .inl L27a13)), (ob_0, .inl (k 0, 8, .inl L27a14)), (obd, .inr (1, [.ref obd_0, .int o_33, .int o_34])), (obd_0, .inl (k 0, 8, .inl o_35)), (tn, .inr (10, [.int tnv0, .int tnv1, .int tnv2, .ref tn_3, .ref tn_4, .ref tn_5, .ref tn_6, .int tnv7, .int tnv8, .ref tn_9, .ref tn_10, .int tnv11, .ref tn_12, .ref tn_13, .ref tn_14, .ref tn_15, .int tnv16, .ref tn_17, .ref tn_18, .ref tnt])), (tn_3, .inl (k 0, 10, .inl tng3)), (tn_4, .inl (k 0, 10, .inl tng4)), (tn_5, .inl (k 0, 10, .inl tng5))] H1 := hP
    have hD : va_D A [(ob, .inr (4, [.ref ob_0, .ref ob_1, .ref obc, .ref obd])), (tn_17, .inl (k 0, 2, .inl tng17)), (tn_18, .inl (k 0, 2, .inl tng18)), (obc, .inr (1, [.ref obc_0, .int o_2, .int o_3])), (obc_0, .inl (k 0, 8, .inl o_4)), (tn_9, .inl (k 0, 4, .inl tng9)), (tn_10, .inl (k 0, 4, .inl tng10)), (ob_1, .inl (k 0, 8, .inl L27a13)), (ob_0, .inl (k 0, 8, .inl L27a14)), (obd, .inr (1, [.ref obd_0, .int o_33, .int o_34])), (obd_0, .inl (k 0, 8, .inl o_35)), (tn, .inr (10, [.int tnv0, .int tnv1, .int tnv2, .ref tn_3, .ref tn_4, .ref tn_5, .ref tn_6, .int tnv7, .int tnv8, .ref tn_9, .ref tn_10, .int tnv11, .ref tn_12, .ref tn_13, .ref tn_14, .ref tn_15, .int tnv16, .ref tn_17, .ref tn_18, .ref tnt])), (tn_3, .inl (k 0, 10, .inl tng3)), (tn_4, .inl (k 0, 10, .inl tng4)), (tn_5, .inl (k 0, 10, .inl tng5))] := hD
    generalize H1 = H at hP hS ⊢
    have hw_36 : (PR 8 1 0 0 1000000 o_35) := hw
    have hw_37 := hw_36
    clear hw
    refine lv_iconst (v := 0) hx hb dX4_settle_55 (by decide) ?_
    refine lv_istore_n (lv' := [(3, .int 0), (0, .ref ob), (1, .ref tn), (2, .int L27l2)]) hx hb dX4_settle_56 rfl hl (by decide) rfl (fun ls hl => ?_)
    refine loop_r (Wg := fun H locs ls => W p l e _ s m _ below meth c H locs _ _ _ (F0 m 57 ls [])) (fun n9 H locs ls => ∃ (L57l3 : Int32) (L57a7 : Nat → Int32) (L57a8 : Nat → Int32), n9 = (8 - L57l3.toInt).toNat ∧ (0 ≤ L57l3.toInt ∧ L57l3.toInt ≤ 8) ∧ (PR 8 1 0 0 1000000 L57a7) ∧ va_P D vwCl [(ob, .inr (4, [.ref ob_0, .ref ob_1, .ref obc, .ref obd])), (tn_17, .inl (k 0, 2, .inl tng17)), (tn_18, .inl (k 0, 2, .inl tng18)), (obc, .inr (1, [.ref obc_0, .int o_2, .int o_3])), (obc_0, .inl (k 0, 8, .inl o_4)), (tn_9, .inl (k 0, 4, .inl tng9)), (tn_10, .inl (k 0, 4, .inl tng10)), (ob_1, .inl (k 0, 8, .inl L57a7)), (ob_0, .inl (k 0, 8, .inl L57a8)), (obd, .inr (1, [.ref obd_0, .int o_33, .int o_34])), (obd_0, .inl (k 0, 8, .inl o_35)), (tn, .inr (10, [.int tnv0, .int tnv1, .int tnv2, .ref tn_3, .ref tn_4, .ref tn_5, .ref tn_6, .int tnv7, .int tnv8, .ref tn_9, .ref tn_10, .int tnv11, .ref tn_12, .ref tn_13, .ref tn_14, .ref tn_15, .int tnv16, .ref tn_17, .ref tn_18, .ref tnt])), (tn_3, .inl (k 0, 10, .inl tng3)), (tn_4, .inl (k 0, 10, .inl tng4)), (tn_5, .inl (k 0, 10, .inl tng5))] H ∧ va_D A [(ob, .inr (4, [.ref ob_0, .ref ob_1, .ref obc, .ref obd])), (tn_17, .inl (k 0, 2, .inl tng17)), (tn_18, .inl (k 0, 2, .inl tng18)), (obc, .inr (1, [.ref obc_0, .int o_2, .int o_3])), (obc_0, .inl (k 0, 8, .inl o_4)), (tn_9, .inl (k 0, 4, .inl tng9)), (tn_10, .inl (k 0, 4, .inl tng10)), (ob_1, .inl (k 0, 8, .inl L57a7)), (ob_0, .inl (k 0, 8, .inl L57a8)), (obd, .inr (1, [.ref obd_0, .int o_33, .int o_34])), (obd_0, .inl (k 0, 8, .inl o_35)), (tn, .inr (10, [.int tnv0, .int tnv1, .int tnv2, .ref tn_3, .ref tn_4, .ref tn_5, .ref tn_6, .int tnv7, .int tnv8, .ref tn_9, .ref tn_10, .int tnv11, .ref tn_12, .ref tn_13, .ref tn_14, .ref tn_15, .int tnv16, .ref tn_17, .ref tn_18, .ref tnt])), (tn_3, .inl (k 0, 10, .inl tng3)), (tn_4, .inl (k 0, 10, .inl tng4)), (tn_5, .inl (k 0, 10, .inl tng5))] ∧ va_S A s.heap H locs ∧ lv_has ls 4 [(0, .ref ob), (1, .ref tn), (2, .int L27l2), (3, .int L57l3)]) (fun n9 H locs ls hI ih_38 => ?_) _ _ _ _ ⟨0, L27a13, L27a14, rfl, (show 0 ≤ 0 ∧ 0 ≤ 8 from by omega), L27a13h0, hP.sub (ws' := [(ob, .inr (4, [.ref ob_0, .ref ob_1, .ref obc, .ref obd])), (tn_17, .inl (k 0, 2, .inl tng17)), (tn_18, .inl (k 0, 2, .inl tng18)), (obc, .inr (1, [.ref obc_0, .int o_2, .int o_3])), (obc_0, .inl (k 0, 8, .inl o_4)), (tn_9, .inl (k 0, 4, .inl tng9)), (tn_10, .inl (k 0, 4, .inl tng10)), (ob_1, .inl (k 0, 8, .inl L27a13)), (ob_0, .inl (k 0, 8, .inl L27a14)), (obd, .inr (1, [.ref obd_0, .int o_33, .int o_34])), (obd_0, .inl (k 0, 8, .inl o_35)), (tn, .inr (10, [.int tnv0, .int tnv1, .int tnv2, .ref tn_3, .ref tn_4, .ref tn_5, .ref tn_6, .int tnv7, .int tnv8, .ref tn_9, .ref tn_10, .int tnv11, .ref tn_12, .ref tn_13, .ref tn_14, .ref tn_15, .int tnv16, .ref tn_17, .ref tn_18, .ref tnt])), (tn_3, .inl (k 0, 10, .inl tng3)), (tn_4, .inl (k 0, 10, .inl tng4)), (tn_5, .inl (k 0, 10, .inl tng5))]) [0, 1, 2, 3, 4, 5, 6, 7, 8, 9, 10, 11, 12, 13, 14] rfl, hD.sub (ws' := [(ob, .inr (4, [.ref ob_0, .ref ob_1, .ref obc, .ref obd])), (tn_17, .inl (k 0, 2, .inl tng17)), (tn_18, .inl (k 0, 2, .inl tng18)), (obc, .inr (1, [.ref obc_0, .int o_2, .int o_3])), (obc_0, .inl (k 0, 8, .inl o_4)), (tn_9, .inl (k 0, 4, .inl tng9)), (tn_10, .inl (k 0, 4, .inl tng10)), (ob_1, .inl (k 0, 8, .inl L27a13)), (ob_0, .inl (k 0, 8, .inl L27a14)), (obd, .inr (1, [.ref obd_0, .int o_33, .int o_34])), (obd_0, .inl (k 0, 8, .inl o_35)), (tn, .inr (10, [.int tnv0, .int tnv1, .int tnv2, .ref tn_3, .ref tn_4, .ref tn_5, .ref tn_6, .int tnv7, .int tnv8, .ref tn_9, .ref tn_10, .int tnv11, .ref tn_12, .ref tn_13, .ref tn_14, .ref tn_15, .int tnv16, .ref tn_17, .ref tn_18, .ref tnt])), (tn_3, .inl (k 0, 10, .inl tng3)), (tn_4, .inl (k 0, 10, .inl tng4)), (tn_5, .inl (k 0, 10, .inl tng5))]) [0, 1, 2, 3, 4, 5, 6, 7, 8, 9, 10, 11, 12, 13, 14] (by decide +kernel) rfl, hS, lv_sub hl [1, 2, 3, 0] rfl⟩
    clear hP hD hS hl
    obtain ⟨L57l3, L57a7, L57a8, en_39, zL57l3, L57a7h0, hP, hD, hS, hl⟩ := hI
    refine lv_iload_n hx hb dX4_settle_57 rfl (lv_at hl 3 rfl) ?_
    refine lv_aload_n hx hb dX4_settle_58 rfl (lv_at hl 1 rfl) ?_
    refine va_get (D := D) (ci := 10) (v := .int tnv0) (C := RX10) (T := TX10) (N := 20) hx hb hts iT_X10 hown hK hP 11 rfl rfl 0 (by decide) (hts _ tw_1_69) (fun _ h9 => h9) rfl dX4_settle_59 ?_
    refine lv_icmp_ge (tgt := 113) hx hb dX4_settle_62 (by decide) (fun h_40 => ?_) (fun h_40 => ?_)
    · skip
      have zh_40 : tnv0.toInt ≤ L57l3.toInt := z_le h_40
      obtain ⟨x_41, ex_41⟩ : ∃ y : Int32, y = L27l2 + 1 := ⟨_, rfl⟩
      have zx_41 : x_41.toInt = L27l2.toInt + 1 := by rw [ex_41]; exact z_add rfl rfl (by omega) (by omega)
      refine lv_iinc (v := x_41) (lv' := [(2, .int x_41), (0, .ref ob), (1, .ref tn), (3, .int L57l3)]) hx hb dX4_settle_113 hl (k := 2) rfl (by rw [ex_41]; rfl) (by decide) rfl (fun ls hl => ?_)
      refine lv_goto (tgt := 27) hx hb dX4_settle_116 (by decide) ?_
      exact ih_15 _ _ _ _ (by omega) ⟨x_41, o_33, o_34, o_35, L57a7, L57a8, rfl, (show 0 ≤ x_41.toInt ∧ x_41.toInt ≤ 2 from by omega), hw_37, L57a7h0, hP.sub (ws' := [(ob, .inr (4, [.ref ob_0, .ref ob_1, .ref obc, .ref obd])), (obd, .inr (1, [.ref obd_0, .int o_33, .int o_34])), (obd_0, .inl (k 0, 8, .inl o_35)), (tn_17, .inl (k 0, 2, .inl tng17)), (tn_18, .inl (k 0, 2, .inl tng18)), (obc, .inr (1, [.ref obc_0, .int o_2, .int o_3])), (obc_0, .inl (k 0, 8, .inl o_4)), (tn, .inr (10, [.int tnv0, .int tnv1, .int tnv2, .ref tn_3, .ref tn_4, .ref tn_5, .ref tn_6, .int tnv7, .int tnv8, .ref tn_9, .ref tn_10, .int tnv11, .ref tn_12, .ref tn_13, .ref tn_14, .ref tn_15, .int tnv16, .ref tn_17, .ref tn_18, .ref tnt])), (tn_3, .inl (k 0, 10, .inl tng3)), (tn_4, .inl (k 0, 10, .inl tng4)), (tn_5, .inl (k 0, 10, .inl tng5)), (tn_9, .inl (k 0, 4, .inl tng9)), (tn_10, .inl (k 0, 4, .inl tng10)), (ob_1, .inl (k 0, 8, .inl L57a7)), (ob_0, .inl (k 0, 8, .inl L57a8))]) [0, 9, 10, 1, 2, 3, 4, 11, 12, 13, 14, 5, 6, 7, 8] rfl, hD.sub (ws' := [(ob, .inr (4, [.ref ob_0, .ref ob_1, .ref obc, .ref obd])), (obd, .inr (1, [.ref obd_0, .int o_33, .int o_34])), (obd_0, .inl (k 0, 8, .inl o_35)), (tn_17, .inl (k 0, 2, .inl tng17)), (tn_18, .inl (k 0, 2, .inl tng18)), (obc, .inr (1, [.ref obc_0, .int o_2, .int o_3])), (obc_0, .inl (k 0, 8, .inl o_4)), (tn, .inr (10, [.int tnv0, .int tnv1, .int tnv2, .ref tn_3, .ref tn_4, .ref tn_5, .ref tn_6, .int tnv7, .int tnv8, .ref tn_9, .ref tn_10, .int tnv11, .ref tn_12, .ref tn_13, .ref tn_14, .ref tn_15, .int tnv16, .ref tn_17, .ref tn_18, .ref tnt])), (tn_3, .inl (k 0, 10, .inl tng3)), (tn_4, .inl (k 0, 10, .inl tng4)), (tn_5, .inl (k 0, 10, .inl tng5)), (tn_9, .inl (k 0, 4, .inl tng9)), (tn_10, .inl (k 0, 4, .inl tng10)), (ob_1, .inl (k 0, 8, .inl L57a7)), (ob_0, .inl (k 0, 8, .inl L57a8))]) [0, 9, 10, 1, 2, 3, 4, 11, 12, 13, 14, 5, 6, 7, 8] (by decide +kernel) rfl, hS, lv_sub hl [1, 2, 0] rfl⟩
    · skip
      have zh_40 : L57l3.toInt < tnv0.toInt := z_nle h_40
      refine lv_aload_n hx hb dX4_settle_65 rfl (lv_at hl 0 rfl) ?_
      refine va_get (D := D) (ci := 4) (v := .ref obd) (C := RX4) (T := TX4) (N := 4) hx hb hts iT_X4 hown hK hP 0 rfl rfl 3 (by decide) (hts _ tw_2_46) (fun _ h9 => h9) rfl dX4_settle_66 ?_
      refine va_get (D := D) (ci := 1) (v := .ref obd_0) (C := RX1) (T := TX1) (N := 3) hx hb hts iT_X1 hown hK hP 9 rfl rfl 0 (by decide) (hts _ tw_2_19) (fun _ h9 => h9) rfl dX4_settle_69 ?_
      refine lv_iload_n hx hb dX4_settle_72 rfl (lv_at hl 3 rfl) ?_
      refine va_iald hx hb hK hP 10 0 rfl rfl (z_in (by omega) (by omega)) dX4_settle_73 ?_
      refine lv_topi (fun x_42 ex_42 => ?_)
      have zx_42r0 : 0 ≤ x_42.toInt ∧ x_42.toInt ≤ 1000000 := by rw [ex_42]; exact PR.ld hw_37 (by omega) (by omega) (by omega)
      refine lv_aload_n hx hb dX4_settle_74 rfl (lv_at hl 0 rfl) ?_
      refine va_get (D := D) (ci := 4) (v := .ref ob_1) (C := RX4) (T := TX4) (N := 4) hx hb hts iT_X4 hown hK hP 0 rfl rfl 1 (by decide) (hts _ tw_2_43) (fun _ h9 => h9) rfl dX4_settle_75 ?_
      refine lv_iload_n hx hb dX4_settle_78 rfl (lv_at hl 3 rfl) ?_
      refine va_iald hx hb hK hP 7 0 rfl rfl (z_in (by omega) (by omega)) dX4_settle_79 ?_
      refine lv_topi (fun x_43 ex_43 => ?_)
      have zx_43r0 : 0 ≤ x_43.toInt ∧ x_43.toInt ≤ 1000000 := by rw [ex_43]; exact PR.ld L57a7h0 (by omega) (by omega) (by omega)
      refine lv_icmp_ge (tgt := 107) hx hb dX4_settle_80 (by decide) (fun h_44 => ?_) (fun h_44 => ?_)
      · skip
        have zh_44 : x_43.toInt ≤ x_42.toInt := z_le h_44
        obtain ⟨x_45, ex_45⟩ : ∃ y : Int32, y = L57l3 + 1 := ⟨_, rfl⟩
        have zx_45 : x_45.toInt = L57l3.toInt + 1 := by rw [ex_45]; exact z_add rfl rfl (by omega) (by omega)
        refine lv_iinc (v := x_45) (lv' := [(3, .int x_45), (0, .ref ob), (1, .ref tn), (2, .int L27l2)]) hx hb dX4_settle_107 hl (k := 3) rfl (by rw [ex_45]; rfl) (by decide) rfl (fun ls hl => ?_)
        refine lv_goto (tgt := 57) hx hb dX4_settle_110 (by decide) ?_
        exact ih_38 _ _ _ _ (by omega) ⟨x_45, L57a7, L57a8, rfl, (show 0 ≤ x_45.toInt ∧ x_45.toInt ≤ 8 from by omega), L57a7h0, hP.sub (ws' := [(ob, .inr (4, [.ref ob_0, .ref ob_1, .ref obc, .ref obd])), (tn_17, .inl (k 0, 2, .inl tng17)), (tn_18, .inl (k 0, 2, .inl tng18)), (obc, .inr (1, [.ref obc_0, .int o_2, .int o_3])), (obc_0, .inl (k 0, 8, .inl o_4)), (tn_9, .inl (k 0, 4, .inl tng9)), (tn_10, .inl (k 0, 4, .inl tng10)), (ob_1, .inl (k 0, 8, .inl L57a7)), (ob_0, .inl (k 0, 8, .inl L57a8)), (obd, .inr (1, [.ref obd_0, .int o_33, .int o_34])), (obd_0, .inl (k 0, 8, .inl o_35)), (tn, .inr (10, [.int tnv0, .int tnv1, .int tnv2, .ref tn_3, .ref tn_4, .ref tn_5, .ref tn_6, .int tnv7, .int tnv8, .ref tn_9, .ref tn_10, .int tnv11, .ref tn_12, .ref tn_13, .ref tn_14, .ref tn_15, .int tnv16, .ref tn_17, .ref tn_18, .ref tnt])), (tn_3, .inl (k 0, 10, .inl tng3)), (tn_4, .inl (k 0, 10, .inl tng4)), (tn_5, .inl (k 0, 10, .inl tng5))]) [0, 1, 2, 3, 4, 5, 6, 7, 8, 9, 10, 11, 12, 13, 14] rfl, hD.sub (ws' := [(ob, .inr (4, [.ref ob_0, .ref ob_1, .ref obc, .ref obd])), (tn_17, .inl (k 0, 2, .inl tng17)), (tn_18, .inl (k 0, 2, .inl tng18)), (obc, .inr (1, [.ref obc_0, .int o_2, .int o_3])), (obc_0, .inl (k 0, 8, .inl o_4)), (tn_9, .inl (k 0, 4, .inl tng9)), (tn_10, .inl (k 0, 4, .inl tng10)), (ob_1, .inl (k 0, 8, .inl L57a7)), (ob_0, .inl (k 0, 8, .inl L57a8)), (obd, .inr (1, [.ref obd_0, .int o_33, .int o_34])), (obd_0, .inl (k 0, 8, .inl o_35)), (tn, .inr (10, [.int tnv0, .int tnv1, .int tnv2, .ref tn_3, .ref tn_4, .ref tn_5, .ref tn_6, .int tnv7, .int tnv8, .ref tn_9, .ref tn_10, .int tnv11, .ref tn_12, .ref tn_13, .ref tn_14, .ref tn_15, .int tnv16, .ref tn_17, .ref tn_18, .ref tnt])), (tn_3, .inl (k 0, 10, .inl tng3)), (tn_4, .inl (k 0, 10, .inl tng4)), (tn_5, .inl (k 0, 10, .inl tng5))]) [0, 1, 2, 3, 4, 5, 6, 7, 8, 9, 10, 11, 12, 13, 14] (by decide +kernel) rfl, hS, lv_sub hl [1, 2, 3, 0] rfl⟩
      · skip
        have zh_44 : x_42.toInt < x_43.toInt := z_nle h_44
        refine lv_aload_n hx hb dX4_settle_83 rfl (lv_at hl 0 rfl) ?_
        refine va_get (D := D) (ci := 4) (v := .ref ob_1) (C := RX4) (T := TX4) (N := 4) hx hb hts iT_X4 hown hK hP 0 rfl rfl 1 (by decide) (hts _ tw_2_43) (fun _ h9 => h9) rfl dX4_settle_84 ?_
        refine lv_iload_n hx hb dX4_settle_87 rfl (lv_at hl 3 rfl) ?_
        refine lv_aload_n hx hb dX4_settle_88 rfl (lv_at hl 0 rfl) ?_
        refine va_get (D := D) (ci := 4) (v := .ref obd) (C := RX4) (T := TX4) (N := 4) hx hb hts iT_X4 hown hK hP 0 rfl rfl 3 (by decide) (hts _ tw_2_46) (fun _ h9 => h9) rfl dX4_settle_89 ?_
        refine va_get (D := D) (ci := 1) (v := .ref obd_0) (C := RX1) (T := TX1) (N := 3) hx hb hts iT_X1 hown hK hP 9 rfl rfl 0 (by decide) (hts _ tw_2_19) (fun _ h9 => h9) rfl dX4_settle_92 ?_
        refine lv_iload_n hx hb dX4_settle_95 rfl (lv_at hl 3 rfl) ?_
        refine va_iald hx hb hK hP 10 0 rfl rfl (z_in (by omega) (by omega)) dX4_settle_96 ?_
        refine lv_topi (fun x_46 ex_46 => ?_)
        obtain rfl : x_42 = x_46 := ex_42.trans ex_46.symm
        refine va_iast hx hb hK hP hD hS 7 0 rfl rfl (z_in (by omega) (by omega)) dX4_settle_97 (fun H locs hP hD hS => ?_)
        obtain ⟨g_47, eg_47⟩ : ∃ z : Nat → Int32, upd L57a7 L57l3.toNatClampNeg x_42 = z := ⟨_, rfl⟩
        have hP : va_P D vwCl [(ob, .inr (4, [.ref ob_0, .ref ob_1, .ref obc, .ref obd])), (tn_17, .inl (k 0, 2, .inl tng17)), (tn_18, .inl (k 0, 2, .inl tng18)), (obc, .inr (1, [.ref obc_0, .int o_2, .int o_3])), (obc_0, .inl (k 0, 8, .inl o_4)), (tn_9, .inl (k 0, 4, .inl tng9)), (tn_10, .inl (k 0, 4, .inl tng10)), (ob_1, .inl (k 0, 8, .inl (upd L57a7 L57l3.toNatClampNeg x_42))), (ob_0, .inl (k 0, 8, .inl L57a8)), (obd, .inr (1, [.ref obd_0, .int o_33, .int o_34])), (obd_0, .inl (k 0, 8, .inl o_35)), (tn, .inr (10, [.int tnv0, .int tnv1, .int tnv2, .ref tn_3, .ref tn_4, .ref tn_5, .ref tn_6, .int tnv7, .int tnv8, .ref tn_9, .ref tn_10, .int tnv11, .ref tn_12, .ref tn_13, .ref tn_14, .ref tn_15, .int tnv16, .ref tn_17, .ref tn_18, .ref tnt])), (tn_3, .inl (k 0, 10, .inl tng3)), (tn_4, .inl (k 0, 10, .inl tng4)), (tn_5, .inl (k 0, 10, .inl tng5))] H := hP
        have hD : va_D A [(ob, .inr (4, [.ref ob_0, .ref ob_1, .ref obc, .ref obd])), (tn_17, .inl (k 0, 2, .inl tng17)), (tn_18, .inl (k 0, 2, .inl tng18)), (obc, .inr (1, [.ref obc_0, .int o_2, .int o_3])), (obc_0, .inl (k 0, 8, .inl o_4)), (tn_9, .inl (k 0, 4, .inl tng9)), (tn_10, .inl (k 0, 4, .inl tng10)), (ob_1, .inl (k 0, 8, .inl (upd L57a7 L57l3.toNatClampNeg x_42))), (ob_0, .inl (k 0, 8, .inl L57a8)), (obd, .inr (1, [.ref obd_0, .int o_33, .int o_34])), (obd_0, .inl (k 0, 8, .inl o_35)), (tn, .inr (10, [.int tnv0, .int tnv1, .int tnv2, .ref tn_3, .ref tn_4, .ref tn_5, .ref tn_6, .int tnv7, .int tnv8, .ref tn_9, .ref tn_10, .int tnv11, .ref tn_12, .ref tn_13, .ref tn_14, .ref tn_15, .int tnv16, .ref tn_17, .ref tn_18, .ref tnt])), (tn_3, .inl (k 0, 10, .inl tng3)), (tn_4, .inl (k 0, 10, .inl tng4)), (tn_5, .inl (k 0, 10, .inl tng5))] := hD
        rw [eg_47] at hP hD
        have hp_48 : PR 8 1 0 0 1000000 g_47 := by rw [← eg_47]; exact PR.put L57a7h0 ⟨by omega, by omega⟩
        refine lv_aload_n hx hb dX4_settle_98 rfl (lv_at hl 0 rfl) ?_
        refine va_get (D := D) (ci := 4) (v := .ref ob_0) (C := RX4) (T := TX4) (N := 4) hx hb hts iT_X4 hown hK hP 0 rfl rfl 0 (by decide) (hts _ tw_2_41) (fun _ h9 => h9) rfl dX4_settle_99 ?_
        refine lv_iload_n hx hb dX4_settle_102 rfl (lv_at hl 3 rfl) ?_
        refine lv_iload_n hx hb dX4_settle_103 rfl (lv_at hl 2 rfl) ?_
        refine lv_iconst (v := 1) hx hb dX4_settle_104 (by decide) ?_
        refine lv_iadd hx hb dX4_settle_105 ?_
        refine lv_topi (fun x_49 ex_49 => ?_)
        have zx_49 : x_49.toInt = L27l2.toInt + 1 := by rw [ex_49]; exact z_add rfl rfl (by omega) (by omega)
        refine va_iast hx hb hK hP hD hS 8 0 rfl rfl (z_in (by omega) (by omega)) dX4_settle_106 (fun H locs hP hD hS => ?_)
        obtain ⟨g_50, eg_50⟩ : ∃ z : Nat → Int32, upd L57a8 L57l3.toNatClampNeg x_49 = z := ⟨_, rfl⟩
        have hP : va_P D vwCl [(ob, .inr (4, [.ref ob_0, .ref ob_1, .ref obc, .ref obd])), (tn_17, .inl (k 0, 2, .inl tng17)), (tn_18, .inl (k 0, 2, .inl tng18)), (obc, .inr (1, [.ref obc_0, .int o_2, .int o_3])), (obc_0, .inl (k 0, 8, .inl o_4)), (tn_9, .inl (k 0, 4, .inl tng9)), (tn_10, .inl (k 0, 4, .inl tng10)), (ob_1, .inl (k 0, 8, .inl g_47)), (ob_0, .inl (k 0, 8, .inl (upd L57a8 L57l3.toNatClampNeg x_49))), (obd, .inr (1, [.ref obd_0, .int o_33, .int o_34])), (obd_0, .inl (k 0, 8, .inl o_35)), (tn, .inr (10, [.int tnv0, .int tnv1, .int tnv2, .ref tn_3, .ref tn_4, .ref tn_5, .ref tn_6, .int tnv7, .int tnv8, .ref tn_9, .ref tn_10, .int tnv11, .ref tn_12, .ref tn_13, .ref tn_14, .ref tn_15, .int tnv16, .ref tn_17, .ref tn_18, .ref tnt])), (tn_3, .inl (k 0, 10, .inl tng3)), (tn_4, .inl (k 0, 10, .inl tng4)), (tn_5, .inl (k 0, 10, .inl tng5))] H := hP
        have hD : va_D A [(ob, .inr (4, [.ref ob_0, .ref ob_1, .ref obc, .ref obd])), (tn_17, .inl (k 0, 2, .inl tng17)), (tn_18, .inl (k 0, 2, .inl tng18)), (obc, .inr (1, [.ref obc_0, .int o_2, .int o_3])), (obc_0, .inl (k 0, 8, .inl o_4)), (tn_9, .inl (k 0, 4, .inl tng9)), (tn_10, .inl (k 0, 4, .inl tng10)), (ob_1, .inl (k 0, 8, .inl g_47)), (ob_0, .inl (k 0, 8, .inl (upd L57a8 L57l3.toNatClampNeg x_49))), (obd, .inr (1, [.ref obd_0, .int o_33, .int o_34])), (obd_0, .inl (k 0, 8, .inl o_35)), (tn, .inr (10, [.int tnv0, .int tnv1, .int tnv2, .ref tn_3, .ref tn_4, .ref tn_5, .ref tn_6, .int tnv7, .int tnv8, .ref tn_9, .ref tn_10, .int tnv11, .ref tn_12, .ref tn_13, .ref tn_14, .ref tn_15, .int tnv16, .ref tn_17, .ref tn_18, .ref tnt])), (tn_3, .inl (k 0, 10, .inl tng3)), (tn_4, .inl (k 0, 10, .inl tng4)), (tn_5, .inl (k 0, 10, .inl tng5))] := hD
        rw [eg_50] at hP hD
        obtain ⟨x_51, ex_51⟩ : ∃ y : Int32, y = L57l3 + 1 := ⟨_, rfl⟩
        have zx_51 : x_51.toInt = L57l3.toInt + 1 := by rw [ex_51]; exact z_add rfl rfl (by omega) (by omega)
        refine lv_iinc (v := x_51) (lv' := [(3, .int x_51), (0, .ref ob), (1, .ref tn), (2, .int L27l2)]) hx hb dX4_settle_107 hl (k := 3) rfl (by rw [ex_51]; rfl) (by decide) rfl (fun ls hl => ?_)
        refine lv_goto (tgt := 57) hx hb dX4_settle_110 (by decide) ?_
        exact ih_38 _ _ _ _ (by omega) ⟨x_51, g_47, g_50, rfl, (show 0 ≤ x_51.toInt ∧ x_51.toInt ≤ 8 from by omega), hp_48, hP.sub (ws' := [(ob, .inr (4, [.ref ob_0, .ref ob_1, .ref obc, .ref obd])), (tn_17, .inl (k 0, 2, .inl tng17)), (tn_18, .inl (k 0, 2, .inl tng18)), (obc, .inr (1, [.ref obc_0, .int o_2, .int o_3])), (obc_0, .inl (k 0, 8, .inl o_4)), (tn_9, .inl (k 0, 4, .inl tng9)), (tn_10, .inl (k 0, 4, .inl tng10)), (ob_1, .inl (k 0, 8, .inl g_47)), (ob_0, .inl (k 0, 8, .inl g_50)), (obd, .inr (1, [.ref obd_0, .int o_33, .int o_34])), (obd_0, .inl (k 0, 8, .inl o_35)), (tn, .inr (10, [.int tnv0, .int tnv1, .int tnv2, .ref tn_3, .ref tn_4, .ref tn_5, .ref tn_6, .int tnv7, .int tnv8, .ref tn_9, .ref tn_10, .int tnv11, .ref tn_12, .ref tn_13, .ref tn_14, .ref tn_15, .int tnv16, .ref tn_17, .ref tn_18, .ref tnt])), (tn_3, .inl (k 0, 10, .inl tng3)), (tn_4, .inl (k 0, 10, .inl tng4)), (tn_5, .inl (k 0, 10, .inl tng5))]) [0, 1, 2, 3, 4, 5, 6, 7, 8, 9, 10, 11, 12, 13, 14] rfl, hD.sub (ws' := [(ob, .inr (4, [.ref ob_0, .ref ob_1, .ref obc, .ref obd])), (tn_17, .inl (k 0, 2, .inl tng17)), (tn_18, .inl (k 0, 2, .inl tng18)), (obc, .inr (1, [.ref obc_0, .int o_2, .int o_3])), (obc_0, .inl (k 0, 8, .inl o_4)), (tn_9, .inl (k 0, 4, .inl tng9)), (tn_10, .inl (k 0, 4, .inl tng10)), (ob_1, .inl (k 0, 8, .inl g_47)), (ob_0, .inl (k 0, 8, .inl g_50)), (obd, .inr (1, [.ref obd_0, .int o_33, .int o_34])), (obd_0, .inl (k 0, 8, .inl o_35)), (tn, .inr (10, [.int tnv0, .int tnv1, .int tnv2, .ref tn_3, .ref tn_4, .ref tn_5, .ref tn_6, .int tnv7, .int tnv8, .ref tn_9, .ref tn_10, .int tnv11, .ref tn_12, .ref tn_13, .ref tn_14, .ref tn_15, .int tnv16, .ref tn_17, .ref tn_18, .ref tnt])), (tn_3, .inl (k 0, 10, .inl tng3)), (tn_4, .inl (k 0, 10, .inl tng4)), (tn_5, .inl (k 0, 10, .inl tng5))]) [0, 1, 2, 3, 4, 5, 6, 7, 8, 9, 10, 11, 12, 13, 14] (by decide +kernel) rfl, hS, lv_sub hl [1, 2, 3, 0] rfl⟩
set_option maxHeartbeats 4000000 in
set_option maxRecDepth 100000 in
theorem c_X4_darkAt (l : Launch) (D : va_G) (k : Nat → ClassId) (ob : Nat) (p0 : Int32) (ob_0 : Nat) (ob_1 : Nat) (obc : Nat) (obd : Nat) (obc_0 : Nat) (obcv1 : Int32) (obcv2 : Int32) (obcg0 : Nat → Int32) (sz : Nat) (hp_obcg0_0 : PR 8 1 0 0 1000000 obcg0) : Met l yX4_darkAt (ww yX4_darkAt cX4_darkAt 2 (some .int)) ({ frames := 0, cells := 0, slots := 0, locals := 0 }) (Pre0 D k [(ob, .inr (4, [.ref ob_0, .ref ob_1, .ref obc, .ref obd])), (obc, .inr (1, [.ref obc_0, .int obcv1, .int obcv2])), (obc_0, .inl (k 0, 8, .inl obcg0))] sz [.ref ob, .int p0]) (va_Qi (fun (r : Int32) (_ : Unit) => (0 ≤ r.toInt ∧ r.toInt ≤ 1000000)) (fun (_ : Unit) tZ => Bw D k (va_A [(ob, .inr (4, [.ref ob_0, .ref ob_1, .ref obc, .ref obd])), (obc, .inr (1, [.ref obc_0, .int obcv1, .int obcv2])), (obc_0, .inl (k 0, 8, .inl obcg0))] sz) [(ob, .inr (4, [.ref ob_0, .ref ob_1, .ref obc, .ref obd])), (obc, .inr (1, [.ref obc_0, .int obcv1, .int obcv2])), (obc_0, .inl (k 0, 8, .inl obcg0))] tZ) (va_A [(ob, .inr (4, [.ref ob_0, .ref ob_1, .ref obc, .ref obd])), (obc, .inr (1, [.ref obc_0, .int obcv1, .int obcv2])), (obc_0, .inl (k 0, 8, .inl obcg0))] sz)) 0 0 (va_A [(ob, .inr (4, [.ref ob_0, .ref ob_1, .ref obc, .ref obd])), (obc, .inr (1, [.ref obc_0, .int obcv1, .int obcv2])), (obc_0, .inl (k 0, 8, .inl obcg0))] sz) := by
  refine Met.ofW (cc := cX4_darkAt) (maxL := 2) (ret := (some .int)) (by decide +kernel) rfl ?_
  intro p e s m args below meth c s₁ B hml hv
  obtain ⟨rfl, hsz, hP, hK, hD0, hN⟩ := hv
  have hx := B.exec
  have hb := B.bytes
  have hr := B.returns
  have hts : ∀ w ∈ TT, w.before _ s = true := fun w h => atoms_spec (ws := ww yX4_darkAt cX4_darkAt 2 (some .int)) B.pre w (List.mem_cons_of_mem _ h)
  have hown : s.vm.findClass RX4 = some m.cls := findClass_of_methodNamed B.named
  have hlocks := B.notSynchronized
  subst hsz
  have hD := hD0.self (sz := s.heap.size)
  generalize hAe : va_A [(ob, .inr (4, [.ref ob_0, .ref ob_1, .ref obc, .ref obd])), (obc, .inr (1, [.ref obc_0, .int obcv1, .int obcv2])), (obc_0, .inl (k 0, 8, .inl obcg0))] s.heap.size = A at hD ⊢
  have hA : ∀ q : Nat, s.heap.size ≤ q → A q := fun q h => by rw [← hAe]; exact Or.inr h
  have hS : va_S A s.heap s.heap [] := va_S.rf
  have hl := lv_entry ([.ref ob, .int p0]) (n := 2) (Nat.le_of_ble_eq_true rfl)
  rw [lg_entry_eq]
  generalize (lg_sl ([.ref ob, .int p0]) ++ List.replicate (2 - (lg_sl ([.ref ob, .int p0])).length) Slot.unset).toArray = ls at hl ⊢
  have hl : lv_has ls 2 [(0, .ref ob), (1, .int p0)] := hl
  refine lv_iload_n hx hb dX4_darkAt_0 rfl (lv_at hl 1 rfl) ?_
  refine lv_if_lt (tgt := 22) hx hb dX4_darkAt_1 (by decide) (fun h_1 => ?_) (fun h_1 => ?_)
  · skip
    have zh_1 : p0.toInt < 0 := z_lt h_1
    refine lv_ldc (v := 1000000) hx hb hown (hts _ tw_4_45) dX4_darkAt_22 ?_
    obtain ⟨hP9, hD9⟩ := sub2 hP hD (ws' := [(ob, .inr (4, [.ref ob_0, .ref ob_1, .ref obc, .ref obd])), (obc, .inr (1, [.ref obc_0, .int obcv1, .int obcv2])), (obc_0, .inl (k 0, 8, .inl obcg0))]) [0, 1, 2] (by decide +kernel) rfl
    exact W.iret (v := 1000000) hx hb hr (fun tZ ht hW => ⟨⟨1000000, (), rfl, (show 0 ≤ 1000000 ∧ 1000000 ≤ 1000000 from by omega), by rw [ht]; exact hP9, va_K.moved hW.alike hK, hD9⟩, hS.F ht⟩) hS.2.2 dX4_darkAt_24
  · skip
    have zh_1 : 0 ≤ p0.toInt := z_nlt h_1
    refine lv_iload_n hx hb dX4_darkAt_4 rfl (lv_at hl 1 rfl) ?_
    refine lv_bipush (v := 8) hx hb dX4_darkAt_5 (by decide) ?_
    refine lv_icmp_ge (tgt := 22) hx hb dX4_darkAt_7 (by decide) (fun h_2 => ?_) (fun h_2 => ?_)
    · skip
      have zh_2 : 8 ≤ p0.toInt := z_le h_2
      refine lv_ldc (v := 1000000) hx hb hown (hts _ tw_4_45) dX4_darkAt_22 ?_
      obtain ⟨hP9, hD9⟩ := sub2 hP hD (ws' := [(ob, .inr (4, [.ref ob_0, .ref ob_1, .ref obc, .ref obd])), (obc, .inr (1, [.ref obc_0, .int obcv1, .int obcv2])), (obc_0, .inl (k 0, 8, .inl obcg0))]) [0, 1, 2] (by decide +kernel) rfl
      exact W.iret (v := 1000000) hx hb hr (fun tZ ht hW => ⟨⟨1000000, (), rfl, (show 0 ≤ 1000000 ∧ 1000000 ≤ 1000000 from by omega), by rw [ht]; exact hP9, va_K.moved hW.alike hK, hD9⟩, hS.F ht⟩) hS.2.2 dX4_darkAt_24
    · skip
      have zh_2 : p0.toInt < 8 := z_nle h_2
      refine lv_aload_n hx hb dX4_darkAt_10 rfl (lv_at hl 0 rfl) ?_
      refine va_get (D := D) (ci := 4) (v := .ref obc) (C := RX4) (T := TX4) (N := 4) hx hb hts iT_X4 hown hK hP 0 rfl rfl 2 (by decide) (hts _ tw_2_45) (fun _ h9 => h9) rfl dX4_darkAt_11 ?_
      refine va_get (D := D) (ci := 1) (v := .ref obc_0) (C := RX1) (T := TX1) (N := 3) hx hb hts iT_X1 hown hK hP 1 rfl rfl 0 (by decide) (hts _ tw_2_19) (fun _ h9 => h9) rfl dX4_darkAt_14 ?_
      refine lv_iload_n hx hb dX4_darkAt_17 rfl (lv_at hl 1 rfl) ?_
      refine va_iald hx hb hK hP 2 0 rfl rfl (z_in (by omega) (by omega)) dX4_darkAt_18 ?_
      refine lv_topi (fun x_3 ex_3 => ?_)
      have zx_3r0 : 0 ≤ x_3.toInt ∧ x_3.toInt ≤ 1000000 := by rw [ex_3]; exact PR.ld hp_obcg0_0 (by omega) (by omega) (by omega)
      refine lv_goto (tgt := 24) hx hb dX4_darkAt_19 (by decide) ?_
      obtain ⟨hP9, hD9⟩ := sub2 hP hD (ws' := [(ob, .inr (4, [.ref ob_0, .ref ob_1, .ref obc, .ref obd])), (obc, .inr (1, [.ref obc_0, .int obcv1, .int obcv2])), (obc_0, .inl (k 0, 8, .inl obcg0))]) [0, 1, 2] (by decide +kernel) rfl
      exact W.iret (v := x_3) hx hb hr (fun tZ ht hW => ⟨⟨x_3, (), rfl, (show 0 ≤ x_3.toInt ∧ x_3.toInt ≤ 1000000 from by omega), by rw [ht]; exact hP9, va_K.moved hW.alike hK, hD9⟩, hS.F ht⟩) hS.2.2 dX4_darkAt_24
set_option maxHeartbeats 4000000 in
set_option maxRecDepth 100000 in
theorem c_X4_partedBy (l : Launch) (D : va_G) (k : Nat → ClassId) (ob : Nat) (tn : Nat) (p1 : Int32) (ob_0 : Nat) (ob_1 : Nat) (obc : Nat) (obd : Nat) (obg0 : Nat → Int32) (tnv0 : Int32) (tnv1 : Int32) (tnv2 : Int32) (tn_3 : Nat) (tn_4 : Nat) (tn_5 : Nat) (tn_6 : Nat) (tnv7 : Int32) (tnv8 : Int32) (tn_9 : Nat) (tn_10 : Nat) (tnv11 : Int32) (tn_12 : Nat) (tn_13 : Nat) (tn_14 : Nat) (tn_15 : Nat) (tnv16 : Int32) (tn_17 : Nat) (tn_18 : Nat) (tnt : Nat) (tng3 : Nat → Int32) (tng4 : Nat → Int32) (sz : Nat) (h_p1 : 0 ≤ p1.toInt ∧ p1.toInt ≤ 9) (h_tnv0 : 0 ≤ tnv0.toInt ∧ tnv0.toInt ≤ 8) (h_tnv2 : 0 ≤ tnv2.toInt ∧ tnv2.toInt ≤ 10) (h_tnv8 : 0 ≤ tnv8.toInt ∧ tnv8.toInt ≤ 4) (h_tnv11 : 0 ≤ tnv11.toInt ∧ tnv11.toInt ≤ 6) (h_tnv16 : 0 ≤ tnv16.toInt ∧ tnv16.toInt ≤ 2) (hp_tng3_0 : PR 10 1 0 0 7 tng3) (hp_tng4_0 : PR 10 1 0 0 7 tng4) : Met l yX4_partedBy (ww yX4_partedBy cX4_partedBy 5 (some .boolean)) ({ frames := 0, cells := 0, slots := 0, locals := 0 }) (Pre0 D k [(ob, .inr (4, [.ref ob_0, .ref ob_1, .ref obc, .ref obd])), (ob_0, .inl (k 0, 8, .inl obg0)), (tn, .inr (10, [.int tnv0, .int tnv1, .int tnv2, .ref tn_3, .ref tn_4, .ref tn_5, .ref tn_6, .int tnv7, .int tnv8, .ref tn_9, .ref tn_10, .int tnv11, .ref tn_12, .ref tn_13, .ref tn_14, .ref tn_15, .int tnv16, .ref tn_17, .ref tn_18, .ref tnt])), (tn_3, .inl (k 0, 10, .inl tng3)), (tn_4, .inl (k 0, 10, .inl tng4))] sz [.ref ob, .ref tn, .int p1]) (va_Qi (fun (r : Int32) (_ : Unit) => (0 ≤ r.toInt ∧ r.toInt ≤ 1)) (fun (_ : Unit) tZ => Bw D k (va_A [(ob, .inr (4, [.ref ob_0, .ref ob_1, .ref obc, .ref obd])), (ob_0, .inl (k 0, 8, .inl obg0)), (tn, .inr (10, [.int tnv0, .int tnv1, .int tnv2, .ref tn_3, .ref tn_4, .ref tn_5, .ref tn_6, .int tnv7, .int tnv8, .ref tn_9, .ref tn_10, .int tnv11, .ref tn_12, .ref tn_13, .ref tn_14, .ref tn_15, .int tnv16, .ref tn_17, .ref tn_18, .ref tnt])), (tn_3, .inl (k 0, 10, .inl tng3)), (tn_4, .inl (k 0, 10, .inl tng4))] sz) [(ob, .inr (4, [.ref ob_0, .ref ob_1, .ref obc, .ref obd])), (ob_0, .inl (k 0, 8, .inl obg0)), (tn, .inr (10, [.int tnv0, .int tnv1, .int tnv2, .ref tn_3, .ref tn_4, .ref tn_5, .ref tn_6, .int tnv7, .int tnv8, .ref tn_9, .ref tn_10, .int tnv11, .ref tn_12, .ref tn_13, .ref tn_14, .ref tn_15, .int tnv16, .ref tn_17, .ref tn_18, .ref tnt])), (tn_3, .inl (k 0, 10, .inl tng3)), (tn_4, .inl (k 0, 10, .inl tng4))] tZ) (va_A [(ob, .inr (4, [.ref ob_0, .ref ob_1, .ref obc, .ref obd])), (ob_0, .inl (k 0, 8, .inl obg0)), (tn, .inr (10, [.int tnv0, .int tnv1, .int tnv2, .ref tn_3, .ref tn_4, .ref tn_5, .ref tn_6, .int tnv7, .int tnv8, .ref tn_9, .ref tn_10, .int tnv11, .ref tn_12, .ref tn_13, .ref tn_14, .ref tn_15, .int tnv16, .ref tn_17, .ref tn_18, .ref tnt])), (tn_3, .inl (k 0, 10, .inl tng3)), (tn_4, .inl (k 0, 10, .inl tng4))] sz)) 0 0 (va_A [(ob, .inr (4, [.ref ob_0, .ref ob_1, .ref obc, .ref obd])), (ob_0, .inl (k 0, 8, .inl obg0)), (tn, .inr (10, [.int tnv0, .int tnv1, .int tnv2, .ref tn_3, .ref tn_4, .ref tn_5, .ref tn_6, .int tnv7, .int tnv8, .ref tn_9, .ref tn_10, .int tnv11, .ref tn_12, .ref tn_13, .ref tn_14, .ref tn_15, .int tnv16, .ref tn_17, .ref tn_18, .ref tnt])), (tn_3, .inl (k 0, 10, .inl tng3)), (tn_4, .inl (k 0, 10, .inl tng4))] sz) := by
  refine Met.ofW (cc := cX4_partedBy) (maxL := 5) (ret := (some .boolean)) (by decide +kernel) rfl ?_
  intro p e s m args below meth c s₁ B hml hv
  obtain ⟨rfl, hsz, hP, hK, hD0, hN⟩ := hv
  have hx := B.exec
  have hb := B.bytes
  have hr := B.returns
  have hts : ∀ w ∈ TT, w.before _ s = true := fun w h => atoms_spec (ws := ww yX4_partedBy cX4_partedBy 5 (some .boolean)) B.pre w (List.mem_cons_of_mem _ h)
  have hown : s.vm.findClass RX4 = some m.cls := findClass_of_methodNamed B.named
  have hlocks := B.notSynchronized
  subst hsz
  have hD := hD0.self (sz := s.heap.size)
  generalize hAe : va_A [(ob, .inr (4, [.ref ob_0, .ref ob_1, .ref obc, .ref obd])), (ob_0, .inl (k 0, 8, .inl obg0)), (tn, .inr (10, [.int tnv0, .int tnv1, .int tnv2, .ref tn_3, .ref tn_4, .ref tn_5, .ref tn_6, .int tnv7, .int tnv8, .ref tn_9, .ref tn_10, .int tnv11, .ref tn_12, .ref tn_13, .ref tn_14, .ref tn_15, .int tnv16, .ref tn_17, .ref tn_18, .ref tnt])), (tn_3, .inl (k 0, 10, .inl tng3)), (tn_4, .inl (k 0, 10, .inl tng4))] s.heap.size = A at hD ⊢
  have hA : ∀ q : Nat, s.heap.size ≤ q → A q := fun q h => by rw [← hAe]; exact Or.inr h
  have hS : va_S A s.heap s.heap [] := va_S.rf
  have hl := lv_entry ([.ref ob, .ref tn, .int p1]) (n := 5) (Nat.le_of_ble_eq_true rfl)
  rw [lg_entry_eq]
  generalize (lg_sl ([.ref ob, .ref tn, .int p1]) ++ List.replicate (5 - (lg_sl ([.ref ob, .ref tn, .int p1])).length) Slot.unset).toArray = ls at hl ⊢
  have hl : lv_has ls 5 [(0, .ref ob), (1, .ref tn), (2, .int p1)] := hl
  refine lv_aload_n hx hb dX4_partedBy_0 rfl (lv_at hl 0 rfl) ?_
  refine va_get (D := D) (ci := 4) (v := .ref ob_0) (C := RX4) (T := TX4) (N := 4) hx hb hts iT_X4 hown hK hP 0 rfl rfl 0 (by decide) (hts _ tw_2_41) (fun _ h9 => h9) rfl dX4_partedBy_1 ?_
  refine lv_aload_n hx hb dX4_partedBy_4 rfl (lv_at hl 1 rfl) ?_
  refine va_get (D := D) (ci := 10) (v := .ref tn_3) (C := RX10) (T := TX10) (N := 20) hx hb hts iT_X10 hown hK hP 2 rfl rfl 3 (by decide) (hts _ tw_1_84) (fun _ h9 => h9) rfl dX4_partedBy_5 ?_
  refine lv_iload_n hx hb dX4_partedBy_8 rfl (lv_at hl 2 rfl) ?_
  refine va_iald hx hb hK hP 3 0 rfl rfl (z_in (by omega) (by omega)) dX4_partedBy_9 ?_
  refine lv_topi (fun x_1 ex_1 => ?_)
  have zx_1r0 : 0 ≤ x_1.toInt ∧ x_1.toInt ≤ 7 := by rw [ex_1]; exact PR.ld hp_tng3_0 (by omega) (by omega) (by omega)
  refine va_iald hx hb hK hP 1 0 rfl rfl (z_in (by omega) (by omega)) dX4_partedBy_10 ?_
  refine lv_topi (fun x_2 ex_2 => ?_)
  refine lv_istore_n (lv' := [(3, .int x_2), (0, .ref ob), (1, .ref tn), (2, .int p1)]) hx hb dX4_partedBy_11 rfl hl (by decide) rfl (fun ls hl => ?_)
  refine lv_aload_n hx hb dX4_partedBy_12 rfl (lv_at hl 1 rfl) ?_
  refine va_get (D := D) (ci := 4) (v := .ref ob_0) (C := RX4) (T := TX4) (N := 4) hx hb hts iT_X4 hown hK hP 0 rfl rfl 0 (by decide) (hts _ tw_2_41) (fun _ h9 => h9) rfl dX4_partedBy_13 ?_
  refine lv_aload_n hx hb dX4_partedBy_16 rfl (lv_at hl 2 rfl) ?_
  refine va_get (D := D) (ci := 10) (v := .ref tn_4) (C := RX10) (T := TX10) (N := 20) hx hb hts iT_X10 hown hK hP 2 rfl rfl 4 (by decide) (hts _ tw_1_89) (fun _ h9 => h9) rfl dX4_partedBy_17 ?_
  refine lv_iload_n hx hb dX4_partedBy_20 rfl (lv_at hl 3 rfl) ?_
  refine va_iald hx hb hK hP 4 0 rfl rfl (z_in (by omega) (by omega)) dX4_partedBy_21 ?_
  refine lv_topi (fun x_3 ex_3 => ?_)
  have zx_3r0 : 0 ≤ x_3.toInt ∧ x_3.toInt ≤ 7 := by rw [ex_3]; exact PR.ld hp_tng4_0 (by omega) (by omega) (by omega)
  refine va_iald hx hb hK hP 1 0 rfl rfl (z_in (by omega) (by omega)) dX4_partedBy_22 ?_
  refine lv_topi (fun x_4 ex_4 => ?_)
  refine lv_istore (lv' := [(4, .int x_4), (3, .int x_2), (0, .ref ob), (1, .ref tn), (2, .int p1)]) hx hb dX4_partedBy_23 hl (by decide) rfl (fun ls hl => ?_)
  refine lv_iload_n hx hb dX4_partedBy_25 rfl (lv_at hl 1 rfl) ?_
  refine lv_iconst (v := (-1)) hx hb dX4_partedBy_26 (by decide) ?_
  refine lv_icmp_eq (tgt := 46) hx hb dX4_partedBy_27 (by decide) (fun h_5 => ?_) (fun h_5 => ?_)
  · skip
    have zh_5 : x_2.toInt = (-1) := z_eq h_5
    refine lv_iconst (v := 0) hx hb dX4_partedBy_46 (by decide) ?_
    obtain ⟨hP9, hD9⟩ := sub2 hP hD (ws' := [(ob, .inr (4, [.ref ob_0, .ref ob_1, .ref obc, .ref obd])), (ob_0, .inl (k 0, 8, .inl obg0)), (tn, .inr (10, [.int tnv0, .int tnv1, .int tnv2, .ref tn_3, .ref tn_4, .ref tn_5, .ref tn_6, .int tnv7, .int tnv8, .ref tn_9, .ref tn_10, .int tnv11, .ref tn_12, .ref tn_13, .ref tn_14, .ref tn_15, .int tnv16, .ref tn_17, .ref tn_18, .ref tnt])), (tn_3, .inl (k 0, 10, .inl tng3)), (tn_4, .inl (k 0, 10, .inl tng4))]) [0, 1, 2, 3, 4] (by decide +kernel) rfl
    exact W.zret (v := 0) hx hb hr (by decide) (fun tZ ht hW => ⟨⟨0, (), rfl, (show 0 ≤ 0 ∧ 0 ≤ 1 from by omega), by rw [ht]; exact hP9, va_K.moved hW.alike hK, hD9⟩, hS.F ht⟩) hS.2.2 dX4_partedBy_47
  · skip
    have zh_5 : ¬ x_2.toInt = (-1) := z_ne h_5
    refine lv_iload hx hb dX4_partedBy_30 (lv_at hl 0 rfl) ?_
    refine lv_iconst (v := (-1)) hx hb dX4_partedBy_32 (by decide) ?_
    refine lv_icmp_eq (tgt := 46) hx hb dX4_partedBy_33 (by decide) (fun h_6 => ?_) (fun h_6 => ?_)
    · skip
      have zh_6 : x_4.toInt = (-1) := z_eq h_6
      refine lv_iconst (v := 0) hx hb dX4_partedBy_46 (by decide) ?_
      obtain ⟨hP9, hD9⟩ := sub2 hP hD (ws' := [(ob, .inr (4, [.ref ob_0, .ref ob_1, .ref obc, .ref obd])), (ob_0, .inl (k 0, 8, .inl obg0)), (tn, .inr (10, [.int tnv0, .int tnv1, .int tnv2, .ref tn_3, .ref tn_4, .ref tn_5, .ref tn_6, .int tnv7, .int tnv8, .ref tn_9, .ref tn_10, .int tnv11, .ref tn_12, .ref tn_13, .ref tn_14, .ref tn_15, .int tnv16, .ref tn_17, .ref tn_18, .ref tnt])), (tn_3, .inl (k 0, 10, .inl tng3)), (tn_4, .inl (k 0, 10, .inl tng4))]) [0, 1, 2, 3, 4] (by decide +kernel) rfl
      exact W.zret (v := 0) hx hb hr (by decide) (fun tZ ht hW => ⟨⟨0, (), rfl, (show 0 ≤ 0 ∧ 0 ≤ 1 from by omega), by rw [ht]; exact hP9, va_K.moved hW.alike hK, hD9⟩, hS.F ht⟩) hS.2.2 dX4_partedBy_47
    · skip
      have zh_6 : ¬ x_4.toInt = (-1) := z_ne h_6
      refine lv_iload_n hx hb dX4_partedBy_36 rfl (lv_at hl 1 rfl) ?_
      refine lv_iload hx hb dX4_partedBy_37 (lv_at hl 0 rfl) ?_
      refine lv_icmp_eq (tgt := 46) hx hb dX4_partedBy_39 (by decide) (fun h_7 => ?_) (fun h_7 => ?_)
      · skip
        have zh_7 : x_2.toInt = x_4.toInt := z_eq h_7
        refine lv_iconst (v := 0) hx hb dX4_partedBy_46 (by decide) ?_
        obtain ⟨hP9, hD9⟩ := sub2 hP hD (ws' := [(ob, .inr (4, [.ref ob_0, .ref ob_1, .ref obc, .ref obd])), (ob_0, .inl (k 0, 8, .inl obg0)), (tn, .inr (10, [.int tnv0, .int tnv1, .int tnv2, .ref tn_3, .ref tn_4, .ref tn_5, .ref tn_6, .int tnv7, .int tnv8, .ref tn_9, .ref tn_10, .int tnv11, .ref tn_12, .ref tn_13, .ref tn_14, .ref tn_15, .int tnv16, .ref tn_17, .ref tn_18, .ref tnt])), (tn_3, .inl (k 0, 10, .inl tng3)), (tn_4, .inl (k 0, 10, .inl tng4))]) [0, 1, 2, 3, 4] (by decide +kernel) rfl
        exact W.zret (v := 0) hx hb hr (by decide) (fun tZ ht hW => ⟨⟨0, (), rfl, (show 0 ≤ 0 ∧ 0 ≤ 1 from by omega), by rw [ht]; exact hP9, va_K.moved hW.alike hK, hD9⟩, hS.F ht⟩) hS.2.2 dX4_partedBy_47
      · skip
        have zh_7 : ¬ x_2.toInt = x_4.toInt := z_ne h_7
        refine lv_iconst (v := 1) hx hb dX4_partedBy_42 (by decide) ?_
        refine lv_goto (tgt := 47) hx hb dX4_partedBy_43 (by decide) ?_
        obtain ⟨hP9, hD9⟩ := sub2 hP hD (ws' := [(ob, .inr (4, [.ref ob_0, .ref ob_1, .ref obc, .ref obd])), (ob_0, .inl (k 0, 8, .inl obg0)), (tn, .inr (10, [.int tnv0, .int tnv1, .int tnv2, .ref tn_3, .ref tn_4, .ref tn_5, .ref tn_6, .int tnv7, .int tnv8, .ref tn_9, .ref tn_10, .int tnv11, .ref tn_12, .ref tn_13, .ref tn_14, .ref tn_15, .int tnv16, .ref tn_17, .ref tn_18, .ref tnt])), (tn_3, .inl (k 0, 10, .inl tng3)), (tn_4, .inl (k 0, 10, .inl tng4))]) [0, 1, 2, 3, 4] (by decide +kernel) rfl
        exact W.zret (v := 1) hx hb hr (by decide) (fun tZ ht hW => ⟨⟨1, (), rfl, (show 0 ≤ 1 ∧ 1 ≤ 1 from by omega), by rw [ht]; exact hP9, va_K.moved hW.alike hK, hD9⟩, hS.F ht⟩) hS.2.2 dX4_partedBy_47
set_option maxHeartbeats 4000000 in
set_option maxRecDepth 100000 in
theorem c_X5_packs_0 (l : Launch) (D : va_G) (k : Nat → ClassId) (ob : Nat) (tn : Nat) (p2 : Int32) (p3 : Int32) (ob_0 : Nat) (ob_1 : Nat) (tnv0 : Int32) (tnv1 : Int32) (tnv2 : Int32) (tn_3 : Nat) (tn_4 : Nat) (tn_5 : Nat) (tn_6 : Nat) (tnv7 : Int32) (tnv8 : Int32) (tn_9 : Nat) (tn_10 : Nat) (tnv11 : Int32) (tn_12 : Nat) (tn_13 : Nat) (tn_14 : Nat) (tn_15 : Nat) (tnv16 : Int32) (tn_17 : Nat) (tn_18 : Nat) (tnt : Nat) (sz : Nat) (h_tnv0 : 0 ≤ tnv0.toInt ∧ tnv0.toInt ≤ 8) (h_tnv2 : 0 ≤ tnv2.toInt ∧ tnv2.toInt ≤ 10) (h_tnv8 : 0 ≤ tnv8.toInt ∧ tnv8.toInt ≤ 4) (h_tnv11 : 0 ≤ tnv11.toInt ∧ tnv11.toInt ≤ 6) (h_tnv16 : 0 ≤ tnv16.toInt ∧ tnv16.toInt ≤ 2) : Met l yX5_packs (ww yX5_packs cX5_packs 7 (some .boolean)) ({ frames := 0, cells := 0, slots := 0, locals := 0 }) (Pre0 D k [(ob, .inr (5, [.ref ob_0, .ref ob_1])), (tn, .inr (10, [.int tnv0, .int tnv1, .int tnv2, .ref tn_3, .ref tn_4, .ref tn_5, .ref tn_6, .int tnv7, .int tnv8, .ref tn_9, .ref tn_10, .int tnv11, .ref tn_12, .ref tn_13, .ref tn_14, .ref tn_15, .int tnv16, .ref tn_17, .ref tn_18, .ref tnt]))] sz [.ref ob, .ref tn, .int 6, .int p2, .int p3]) (va_Qi (fun (r : Int32) (_ : Unit) => (1 ≤ r.toInt ∧ r.toInt ≤ 1)) (fun (_ : Unit) tZ => Bw D k (va_A [(ob, .inr (5, [.ref ob_0, .ref ob_1])), (tn, .inr (10, [.int tnv0, .int tnv1, .int tnv2, .ref tn_3, .ref tn_4, .ref tn_5, .ref tn_6, .int tnv7, .int tnv8, .ref tn_9, .ref tn_10, .int tnv11, .ref tn_12, .ref tn_13, .ref tn_14, .ref tn_15, .int tnv16, .ref tn_17, .ref tn_18, .ref tnt]))] sz) [(ob, .inr (5, [.ref ob_0, .ref ob_1])), (tn, .inr (10, [.int tnv0, .int tnv1, .int tnv2, .ref tn_3, .ref tn_4, .ref tn_5, .ref tn_6, .int tnv7, .int tnv8, .ref tn_9, .ref tn_10, .int tnv11, .ref tn_12, .ref tn_13, .ref tn_14, .ref tn_15, .int tnv16, .ref tn_17, .ref tn_18, .ref tnt]))] tZ) (va_A [(ob, .inr (5, [.ref ob_0, .ref ob_1])), (tn, .inr (10, [.int tnv0, .int tnv1, .int tnv2, .ref tn_3, .ref tn_4, .ref tn_5, .ref tn_6, .int tnv7, .int tnv8, .ref tn_9, .ref tn_10, .int tnv11, .ref tn_12, .ref tn_13, .ref tn_14, .ref tn_15, .int tnv16, .ref tn_17, .ref tn_18, .ref tnt]))] sz)) 0 0 (va_A [(ob, .inr (5, [.ref ob_0, .ref ob_1])), (tn, .inr (10, [.int tnv0, .int tnv1, .int tnv2, .ref tn_3, .ref tn_4, .ref tn_5, .ref tn_6, .int tnv7, .int tnv8, .ref tn_9, .ref tn_10, .int tnv11, .ref tn_12, .ref tn_13, .ref tn_14, .ref tn_15, .int tnv16, .ref tn_17, .ref tn_18, .ref tnt]))] sz) := by
  refine Met.ofW (cc := cX5_packs) (maxL := 7) (ret := (some .boolean)) (by decide +kernel) rfl ?_
  intro p e s m args below meth c s₁ B hml hv
  obtain ⟨rfl, hsz, hP, hK, hD0, hN⟩ := hv
  have hx := B.exec
  have hb := B.bytes
  have hr := B.returns
  have hts : ∀ w ∈ TT, w.before _ s = true := fun w h => atoms_spec (ws := ww yX5_packs cX5_packs 7 (some .boolean)) B.pre w (List.mem_cons_of_mem _ h)
  have hown : s.vm.findClass RX5 = some m.cls := findClass_of_methodNamed B.named
  have hlocks := B.notSynchronized
  subst hsz
  have hD := hD0.self (sz := s.heap.size)
  generalize hAe : va_A [(ob, .inr (5, [.ref ob_0, .ref ob_1])), (tn, .inr (10, [.int tnv0, .int tnv1, .int tnv2, .ref tn_3, .ref tn_4, .ref tn_5, .ref tn_6, .int tnv7, .int tnv8, .ref tn_9, .ref tn_10, .int tnv11, .ref tn_12, .ref tn_13, .ref tn_14, .ref tn_15, .int tnv16, .ref tn_17, .ref tn_18, .ref tnt]))] s.heap.size = A at hD ⊢
  have hA : ∀ q : Nat, s.heap.size ≤ q → A q := fun q h => by rw [← hAe]; exact Or.inr h
  have hS : va_S A s.heap s.heap [] := va_S.rf
  have hl := lv_entry ([.ref ob, .ref tn, .int 6, .int p2, .int p3]) (n := 7) (Nat.le_of_ble_eq_true rfl)
  rw [lg_entry_eq]
  generalize (lg_sl ([.ref ob, .ref tn, .int 6, .int p2, .int p3]) ++ List.replicate (7 - (lg_sl ([.ref ob, .ref tn, .int 6, .int p2, .int p3])).length) Slot.unset).toArray = ls at hl ⊢
  have hl : lv_has ls 7 [(0, .ref ob), (1, .ref tn), (2, .int 6), (3, .int p2), (4, .int p3)] := hl
  refine lv_iload_n hx hb dX5_packs_0 rfl (lv_at hl 2 rfl) ?_
  refine lv_aload_n hx hb dX5_packs_1 rfl (lv_at hl 1 rfl) ?_
  refine va_get (D := D) (ci := 10) (v := .int tnv11) (C := RX10) (T := TX10) (N := 20) hx hb hts iT_X10 hown hK hP 1 rfl rfl 11 (by decide) (hts _ tw_1_120) (fun _ h9 => h9) rfl dX5_packs_2 ?_
  refine lv_icmp_ge (tgt := 14) hx hb dX5_packs_5 (by decide) (fun h_1 => ?_) (fun h_1 => ?_)
  · skip
    have zh_1 : tnv11.toInt ≤ 6 := z_le h_1
    refine lv_iconst (v := 1) hx hb dX5_packs_14 (by decide) ?_
    obtain ⟨hP9, hD9⟩ := sub2 hP hD (ws' := [(ob, .inr (5, [.ref ob_0, .ref ob_1])), (tn, .inr (10, [.int tnv0, .int tnv1, .int tnv2, .ref tn_3, .ref tn_4, .ref tn_5, .ref tn_6, .int tnv7, .int tnv8, .ref tn_9, .ref tn_10, .int tnv11, .ref tn_12, .ref tn_13, .ref tn_14, .ref tn_15, .int tnv16, .ref tn_17, .ref tn_18, .ref tnt]))]) [0, 1] (by decide +kernel) rfl
    exact W.zret (v := 1) hx hb hr (by decide) (fun tZ ht hW => ⟨⟨1, (), rfl, (show 1 ≤ 1 ∧ 1 ≤ 1 from by omega), by rw [ht]; exact hP9, va_K.moved hW.alike hK, hD9⟩, hS.F ht⟩) hS.2.2 dX5_packs_15
  · skip
    have zh_1 : 6 < tnv11.toInt := z_nle h_1
    exact False.elim (by omega)
set_option maxHeartbeats 4000000 in
set_option maxRecDepth 100000 in
theorem c_X5_packs_1 (l : Launch) (D : va_G) (k : Nat → ClassId) (ob : Nat) (tn : Nat) (p2 : Int32) (p3 : Int32) (ob_0 : Nat) (ob_1 : Nat) (obg0 : Nat → Int32) (obg1 : Nat → Int32) (tnv0 : Int32) (tnv1 : Int32) (tnv2 : Int32) (tn_3 : Nat) (tn_4 : Nat) (tn_5 : Nat) (tn_6 : Nat) (tnv7 : Int32) (tnv8 : Int32) (tn_9 : Nat) (tn_10 : Nat) (tnv11 : Int32) (tn_12 : Nat) (tn_13 : Nat) (tn_14 : Nat) (tn_15 : Nat) (tnv16 : Int32) (tn_17 : Nat) (tn_18 : Nat) (tnt : Nat) (tng15 : Nat → Int32) (sz : Nat) (h_tnv0 : 0 ≤ tnv0.toInt ∧ tnv0.toInt ≤ 8) (h_tnv2 : 0 ≤ tnv2.toInt ∧ tnv2.toInt ≤ 10) (h_tnv8 : 0 ≤ tnv8.toInt ∧ tnv8.toInt ≤ 4) (h_tnv11 : 0 ≤ tnv11.toInt ∧ tnv11.toInt ≤ 6) (h_tnv16 : 0 ≤ tnv16.toInt ∧ tnv16.toInt ≤ 2) : Met l yX5_packs (ww yX5_packs cX5_packs 7 (some .boolean)) ({ frames := 1, cells := 0, slots := 0, locals := 26 }) (Pre0 D k [(ob, .inr (5, [.ref ob_0, .ref ob_1])), (ob_0, .inl (k 0, 6, .inl obg0)), (ob_1, .inl (k 0, 6, .inl obg1)), (tn, .inr (10, [.int tnv0, .int tnv1, .int tnv2, .ref tn_3, .ref tn_4, .ref tn_5, .ref tn_6, .int tnv7, .int tnv8, .ref tn_9, .ref tn_10, .int tnv11, .ref tn_12, .ref tn_13, .ref tn_14, .ref tn_15, .int tnv16, .ref tn_17, .ref tn_18, .ref tnt])), (tn_15, .inl (k 0, 6, .inl tng15))] sz [.ref ob, .ref tn, .int 5, .int p2, .int p3]) (va_Qi (fun (r : Int32) (u : (Nat → Int32) × (Nat → Int32)) => match u with | (obg0z, obg1z) => (0 ≤ r.toInt ∧ r.toInt ≤ 1)) (fun (u : (Nat → Int32) × (Nat → Int32)) tZ => match u with | (obg0z, obg1z) => Bw D k (va_A [(ob, .inr (5, [.ref ob_0, .ref ob_1])), (ob_0, .inl (k 0, 6, .inl obg0)), (ob_1, .inl (k 0, 6, .inl obg1)), (tn, .inr (10, [.int tnv0, .int tnv1, .int tnv2, .ref tn_3, .ref tn_4, .ref tn_5, .ref tn_6, .int tnv7, .int tnv8, .ref tn_9, .ref tn_10, .int tnv11, .ref tn_12, .ref tn_13, .ref tn_14, .ref tn_15, .int tnv16, .ref tn_17, .ref tn_18, .ref tnt])), (tn_15, .inl (k 0, 6, .inl tng15))] sz) [(ob, .inr (5, [.ref ob_0, .ref ob_1])), (ob_0, .inl (k 0, 6, .inl obg0z)), (ob_1, .inl (k 0, 6, .inl obg1z)), (tn, .inr (10, [.int tnv0, .int tnv1, .int tnv2, .ref tn_3, .ref tn_4, .ref tn_5, .ref tn_6, .int tnv7, .int tnv8, .ref tn_9, .ref tn_10, .int tnv11, .ref tn_12, .ref tn_13, .ref tn_14, .ref tn_15, .int tnv16, .ref tn_17, .ref tn_18, .ref tnt])), (tn_15, .inl (k 0, 6, .inl tng15))] tZ) (va_A [(ob, .inr (5, [.ref ob_0, .ref ob_1])), (ob_0, .inl (k 0, 6, .inl obg0)), (ob_1, .inl (k 0, 6, .inl obg1)), (tn, .inr (10, [.int tnv0, .int tnv1, .int tnv2, .ref tn_3, .ref tn_4, .ref tn_5, .ref tn_6, .int tnv7, .int tnv8, .ref tn_9, .ref tn_10, .int tnv11, .ref tn_12, .ref tn_13, .ref tn_14, .ref tn_15, .int tnv16, .ref tn_17, .ref tn_18, .ref tnt])), (tn_15, .inl (k 0, 6, .inl tng15))] sz)) 0 0 (va_A [(ob, .inr (5, [.ref ob_0, .ref ob_1])), (ob_0, .inl (k 0, 6, .inl obg0)), (ob_1, .inl (k 0, 6, .inl obg1)), (tn, .inr (10, [.int tnv0, .int tnv1, .int tnv2, .ref tn_3, .ref tn_4, .ref tn_5, .ref tn_6, .int tnv7, .int tnv8, .ref tn_9, .ref tn_10, .int tnv11, .ref tn_12, .ref tn_13, .ref tn_14, .ref tn_15, .int tnv16, .ref tn_17, .ref tn_18, .ref tnt])), (tn_15, .inl (k 0, 6, .inl tng15))] sz) := by
  refine Met.ofW (cc := cX5_packs) (maxL := 7) (ret := (some .boolean)) (by decide +kernel) rfl ?_
  intro p e s m args below meth c s₁ B hml hv
  obtain ⟨rfl, hsz, hP, hK, hD0, hN⟩ := hv
  have hx := B.exec
  have hb := B.bytes
  have hr := B.returns
  have hts : ∀ w ∈ TT, w.before _ s = true := fun w h => atoms_spec (ws := ww yX5_packs cX5_packs 7 (some .boolean)) B.pre w (List.mem_cons_of_mem _ h)
  have hown : s.vm.findClass RX5 = some m.cls := findClass_of_methodNamed B.named
  have hlocks := B.notSynchronized
  subst hsz
  have hD := hD0.self (sz := s.heap.size)
  generalize hAe : va_A [(ob, .inr (5, [.ref ob_0, .ref ob_1])), (ob_0, .inl (k 0, 6, .inl obg0)), (ob_1, .inl (k 0, 6, .inl obg1)), (tn, .inr (10, [.int tnv0, .int tnv1, .int tnv2, .ref tn_3, .ref tn_4, .ref tn_5, .ref tn_6, .int tnv7, .int tnv8, .ref tn_9, .ref tn_10, .int tnv11, .ref tn_12, .ref tn_13, .ref tn_14, .ref tn_15, .int tnv16, .ref tn_17, .ref tn_18, .ref tnt])), (tn_15, .inl (k 0, 6, .inl tng15))] s.heap.size = A at hD ⊢
  have hA : ∀ q : Nat, s.heap.size ≤ q → A q := fun q h => by rw [← hAe]; exact Or.inr h
  have hS : va_S A s.heap s.heap [] := va_S.rf
  have hl := lv_entry ([.ref ob, .ref tn, .int 5, .int p2, .int p3]) (n := 7) (Nat.le_of_ble_eq_true rfl)
  rw [lg_entry_eq]
  generalize (lg_sl ([.ref ob, .ref tn, .int 5, .int p2, .int p3]) ++ List.replicate (7 - (lg_sl ([.ref ob, .ref tn, .int 5, .int p2, .int p3])).length) Slot.unset).toArray = ls at hl ⊢
  have hl : lv_has ls 7 [(0, .ref ob), (1, .ref tn), (2, .int 5), (3, .int p2), (4, .int p3)] := hl
  refine lv_iload_n hx hb dX5_packs_0 rfl (lv_at hl 2 rfl) ?_
  refine lv_aload_n hx hb dX5_packs_1 rfl (lv_at hl 1 rfl) ?_
  refine va_get (D := D) (ci := 10) (v := .int tnv11) (C := RX10) (T := TX10) (N := 20) hx hb hts iT_X10 hown hK hP 3 rfl rfl 11 (by decide) (hts _ tw_1_120) (fun _ h9 => h9) rfl dX5_packs_2 ?_
  refine lv_icmp_ge (tgt := 14) hx hb dX5_packs_5 (by decide) (fun h_1 => ?_) (fun h_1 => ?_)
  · skip
    have zh_1 : tnv11.toInt ≤ 5 := z_le h_1
    refine lv_iconst (v := 1) hx hb dX5_packs_14 (by decide) ?_
    obtain ⟨hP9, hD9⟩ := sub2 hP hD (ws' := [(ob, .inr (5, [.ref ob_0, .ref ob_1])), (ob_0, .inl (k 0, 6, .inl obg0)), (ob_1, .inl (k 0, 6, .inl obg1)), (tn, .inr (10, [.int tnv0, .int tnv1, .int tnv2, .ref tn_3, .ref tn_4, .ref tn_5, .ref tn_6, .int tnv7, .int tnv8, .ref tn_9, .ref tn_10, .int tnv11, .ref tn_12, .ref tn_13, .ref tn_14, .ref tn_15, .int tnv16, .ref tn_17, .ref tn_18, .ref tnt])), (tn_15, .inl (k 0, 6, .inl tng15))]) [0, 1, 2, 3, 4] (by decide +kernel) rfl
    exact W.zret (v := 1) hx hb hr (by decide) (fun tZ ht hW => ⟨⟨1, (obg0, obg1), rfl, (show 0 ≤ 1 ∧ 1 ≤ 1 from by omega), by rw [ht]; exact hP9, va_K.moved hW.alike hK, hD9⟩, hS.F ht⟩) hS.2.2 dX5_packs_15
  · skip
    have zh_1 : 5 < tnv11.toInt := z_nle h_1
    refine lv_iload_n hx hb dX5_packs_8 rfl (lv_at hl 2 rfl) ?_
    refine lv_bipush (v := 6) hx hb dX5_packs_9 (by decide) ?_
    refine lv_icmp_lt (tgt := 16) hx hb dX5_packs_11 (by decide) (fun _ => ?_) (fun c9 => absurd c9 (by decide))
    refine lv_aload_n hx hb dX5_packs_16 rfl (lv_at hl 1 rfl) ?_
    refine va_get (D := D) (ci := 10) (v := .ref tn_15) (C := RX10) (T := TX10) (N := 20) hx hb hts iT_X10 hown hK hP 3 rfl rfl 15 (by decide) (hts _ tw_1_139) (fun _ h9 => h9) rfl dX5_packs_17 ?_
    refine lv_iload_n hx hb dX5_packs_20 rfl (lv_at hl 2 rfl) ?_
    refine va_iald hx hb hK hP 4 0 rfl rfl (z_in (by decide) (by decide)) dX5_packs_21 ?_
    refine lv_topi (fun x_2 ex_2 => ?_)
    refine lv_istore (lv' := [(5, .int x_2), (0, .ref ob), (1, .ref tn), (2, .int 5), (3, .int p2), (4, .int p3)]) hx hb dX5_packs_22 hl (by decide) rfl (fun ls hl => ?_)
    refine lv_iconst (v := 0) hx hb dX5_packs_24 (by decide) ?_
    refine lv_istore (lv' := [(6, .int 0), (5, .int x_2), (0, .ref ob), (1, .ref tn), (2, .int 5), (3, .int p2), (4, .int p3)]) hx hb dX5_packs_25 hl (by decide) rfl (fun ls hl => ?_)
    refine loop_r (Wg := fun H locs ls => W p l e _ s m _ below meth c H locs _ _ _ (F0 m 27 ls [])) (fun n9 H locs ls => ∃ (L27l6 : Int32), n9 = (6 - L27l6.toInt).toNat ∧ (0 ≤ L27l6.toInt ∧ L27l6.toInt ≤ 6) ∧ va_P D vwCl [(ob, .inr (5, [.ref ob_0, .ref ob_1])), (ob_0, .inl (k 0, 6, .inl obg0)), (ob_1, .inl (k 0, 6, .inl obg1)), (tn, .inr (10, [.int tnv0, .int tnv1, .int tnv2, .ref tn_3, .ref tn_4, .ref tn_5, .ref tn_6, .int tnv7, .int tnv8, .ref tn_9, .ref tn_10, .int tnv11, .ref tn_12, .ref tn_13, .ref tn_14, .ref tn_15, .int tnv16, .ref tn_17, .ref tn_18, .ref tnt])), (tn_15, .inl (k 0, 6, .inl tng15))] H ∧ va_D A [(ob, .inr (5, [.ref ob_0, .ref ob_1])), (ob_0, .inl (k 0, 6, .inl obg0)), (ob_1, .inl (k 0, 6, .inl obg1)), (tn, .inr (10, [.int tnv0, .int tnv1, .int tnv2, .ref tn_3, .ref tn_4, .ref tn_5, .ref tn_6, .int tnv7, .int tnv8, .ref tn_9, .ref tn_10, .int tnv11, .ref tn_12, .ref tn_13, .ref tn_14, .ref tn_15, .int tnv16, .ref tn_17, .ref tn_18, .ref tnt])), (tn_15, .inl (k 0, 6, .inl tng15))] ∧ va_S A s.heap H locs ∧ lv_has ls 7 [(0, .ref ob), (1, .ref tn), (2, .int 5), (3, .int p2), (4, .int p3), (5, .int x_2), (6, .int L27l6)]) (fun n9 H locs ls hI ih_3 => ?_) _ _ _ _ ⟨0, rfl, (show 0 ≤ 0 ∧ 0 ≤ 6 from by omega), hP.sub (ws' := [(ob, .inr (5, [.ref ob_0, .ref ob_1])), (ob_0, .inl (k 0, 6, .inl obg0)), (ob_1, .inl (k 0, 6, .inl obg1)), (tn, .inr (10, [.int tnv0, .int tnv1, .int tnv2, .ref tn_3, .ref tn_4, .ref tn_5, .ref tn_6, .int tnv7, .int tnv8, .ref tn_9, .ref tn_10, .int tnv11, .ref tn_12, .ref tn_13, .ref tn_14, .ref tn_15, .int tnv16, .ref tn_17, .ref tn_18, .ref tnt])), (tn_15, .inl (k 0, 6, .inl tng15))]) [0, 1, 2, 3, 4] rfl, hD.sub (ws' := [(ob, .inr (5, [.ref ob_0, .ref ob_1])), (ob_0, .inl (k 0, 6, .inl obg0)), (ob_1, .inl (k 0, 6, .inl obg1)), (tn, .inr (10, [.int tnv0, .int tnv1, .int tnv2, .ref tn_3, .ref tn_4, .ref tn_5, .ref tn_6, .int tnv7, .int tnv8, .ref tn_9, .ref tn_10, .int tnv11, .ref tn_12, .ref tn_13, .ref tn_14, .ref tn_15, .int tnv16, .ref tn_17, .ref tn_18, .ref tnt])), (tn_15, .inl (k 0, 6, .inl tng15))]) [0, 1, 2, 3, 4] (by decide +kernel) rfl, hS, lv_sub hl [2, 3, 4, 5, 6, 1, 0] rfl⟩
    clear hP hD hS hl
    obtain ⟨L27l6, en_4, zL27l6, hP, hD, hS, hl⟩ := hI
    refine lv_iload hx hb dX5_packs_27 (lv_at hl 6 rfl) ?_
    refine lv_iload_n hx hb dX5_packs_29 rfl (lv_at hl 3 rfl) ?_
    refine lv_icmp_gt (tgt := 120) hx hb dX5_packs_30 (by decide) (fun h_5 => ?_) (fun h_5 => ?_)
    · skip
      have zh_5 : p2.toInt < L27l6.toInt := z_lt h_5
      refine lv_iconst (v := 0) hx hb dX5_packs_120 (by decide) ?_
      obtain ⟨hP9, hD9⟩ := sub2 hP hD (ws' := [(ob, .inr (5, [.ref ob_0, .ref ob_1])), (ob_0, .inl (k 0, 6, .inl obg0)), (ob_1, .inl (k 0, 6, .inl obg1)), (tn, .inr (10, [.int tnv0, .int tnv1, .int tnv2, .ref tn_3, .ref tn_4, .ref tn_5, .ref tn_6, .int tnv7, .int tnv8, .ref tn_9, .ref tn_10, .int tnv11, .ref tn_12, .ref tn_13, .ref tn_14, .ref tn_15, .int tnv16, .ref tn_17, .ref tn_18, .ref tnt])), (tn_15, .inl (k 0, 6, .inl tng15))]) [0, 1, 2, 3, 4] (by decide +kernel) rfl
      exact W.zret (v := 0) hx hb hr (by decide) (fun tZ ht hW => ⟨⟨0, (obg0, obg1), rfl, (show 0 ≤ 0 ∧ 0 ≤ 1 from by omega), by rw [ht]; exact hP9, va_K.moved hW.alike hK, hD9⟩, hS.F ht⟩) hS.2.2 dX5_packs_121
    · skip
      have zh_5 : L27l6.toInt ≤ p2.toInt := z_nlt h_5
      refine lv_iload hx hb dX5_packs_33 (lv_at hl 6 rfl) ?_
      refine lv_iload hx hb dX5_packs_35 (lv_at hl 4 rfl) ?_
      refine lv_icmp_ge (tgt := 120) hx hb dX5_packs_37 (by decide) (fun h_6 => ?_) (fun h_6 => ?_)
      · skip
        have zh_6 : p3.toInt ≤ L27l6.toInt := z_le h_6
        refine lv_iconst (v := 0) hx hb dX5_packs_120 (by decide) ?_
        obtain ⟨hP9, hD9⟩ := sub2 hP hD (ws' := [(ob, .inr (5, [.ref ob_0, .ref ob_1])), (ob_0, .inl (k 0, 6, .inl obg0)), (ob_1, .inl (k 0, 6, .inl obg1)), (tn, .inr (10, [.int tnv0, .int tnv1, .int tnv2, .ref tn_3, .ref tn_4, .ref tn_5, .ref tn_6, .int tnv7, .int tnv8, .ref tn_9, .ref tn_10, .int tnv11, .ref tn_12, .ref tn_13, .ref tn_14, .ref tn_15, .int tnv16, .ref tn_17, .ref tn_18, .ref tnt])), (tn_15, .inl (k 0, 6, .inl tng15))]) [0, 1, 2, 3, 4] (by decide +kernel) rfl
        exact W.zret (v := 0) hx hb hr (by decide) (fun tZ ht hW => ⟨⟨0, (obg0, obg1), rfl, (show 0 ≤ 0 ∧ 0 ≤ 1 from by omega), by rw [ht]; exact hP9, va_K.moved hW.alike hK, hD9⟩, hS.F ht⟩) hS.2.2 dX5_packs_121
      · skip
        have zh_6 : L27l6.toInt < p3.toInt := z_nle h_6
        refine lv_iload hx hb dX5_packs_40 (lv_at hl 6 rfl) ?_
        refine lv_bipush (v := 6) hx hb dX5_packs_42 (by decide) ?_
        refine lv_icmp_ge (tgt := 120) hx hb dX5_packs_44 (by decide) (fun h_7 => ?_) (fun h_7 => ?_)
        · skip
          have zh_7 : 6 ≤ L27l6.toInt := z_le h_7
          refine lv_iconst (v := 0) hx hb dX5_packs_120 (by decide) ?_
          obtain ⟨hP9, hD9⟩ := sub2 hP hD (ws' := [(ob, .inr (5, [.ref ob_0, .ref ob_1])), (ob_0, .inl (k 0, 6, .inl obg0)), (ob_1, .inl (k 0, 6, .inl obg1)), (tn, .inr (10, [.int tnv0, .int tnv1, .int tnv2, .ref tn_3, .ref tn_4, .ref tn_5, .ref tn_6, .int tnv7, .int tnv8, .ref tn_9, .ref tn_10, .int tnv11, .ref tn_12, .ref tn_13, .ref tn_14, .ref tn_15, .int tnv16, .ref tn_17, .ref tn_18, .ref tnt])), (tn_15, .inl (k 0, 6, .inl tng15))]) [0, 1, 2, 3, 4] (by decide +kernel) rfl
          exact W.zret (v := 0) hx hb hr (by decide) (fun tZ ht hW => ⟨⟨0, (obg0, obg1), rfl, (show 0 ≤ 0 ∧ 0 ≤ 1 from by omega), by rw [ht]; exact hP9, va_K.moved hW.alike hK, hD9⟩, hS.F ht⟩) hS.2.2 dX5_packs_121
        · skip
          have zh_7 : L27l6.toInt < 6 := z_nle h_7
          refine lv_aload_n hx hb dX5_packs_47 rfl (lv_at hl 0 rfl) ?_
          refine va_get (D := D) (ci := 5) (v := .ref ob_0) (C := RX5) (T := TX5) (N := 2) hx hb hts iT_X5 hown hK hP 0 rfl rfl 0 (by decide) (hts _ tw_2_148) (fun _ h9 => h9) rfl dX5_packs_48 ?_
          refine lv_iload hx hb dX5_packs_51 (lv_at hl 6 rfl) ?_
          refine va_iald hx hb hK hP 1 0 rfl rfl (z_in (by omega) (by omega)) dX5_packs_53 ?_
          refine lv_topi (fun x_8 ex_8 => ?_)
          refine lv_iload hx hb dX5_packs_54 (lv_at hl 5 rfl) ?_
          refine lv_icmp_lt (tgt := 114) hx hb dX5_packs_56 (by decide) (fun h_9 => ?_) (fun h_9 => ?_)
          · skip
            have zh_9 : x_8.toInt < x_2.toInt := z_lt h_9
            obtain ⟨x_10, ex_10⟩ : ∃ y : Int32, y = L27l6 + 1 := ⟨_, rfl⟩
            have zx_10 : x_10.toInt = L27l6.toInt + 1 := by rw [ex_10]; exact z_add rfl rfl (by omega) (by omega)
            refine lv_iinc (v := x_10) (lv' := [(6, .int x_10), (0, .ref ob), (1, .ref tn), (2, .int 5), (3, .int p2), (4, .int p3), (5, .int x_2)]) hx hb dX5_packs_114 hl (k := 6) rfl (by rw [ex_10]; rfl) (by decide) rfl (fun ls hl => ?_)
            refine lv_goto (tgt := 27) hx hb dX5_packs_117 (by decide) ?_
            exact ih_3 _ _ _ _ (by omega) ⟨x_10, rfl, (show 0 ≤ x_10.toInt ∧ x_10.toInt ≤ 6 from by omega), hP.sub (ws' := [(ob, .inr (5, [.ref ob_0, .ref ob_1])), (ob_0, .inl (k 0, 6, .inl obg0)), (ob_1, .inl (k 0, 6, .inl obg1)), (tn, .inr (10, [.int tnv0, .int tnv1, .int tnv2, .ref tn_3, .ref tn_4, .ref tn_5, .ref tn_6, .int tnv7, .int tnv8, .ref tn_9, .ref tn_10, .int tnv11, .ref tn_12, .ref tn_13, .ref tn_14, .ref tn_15, .int tnv16, .ref tn_17, .ref tn_18, .ref tnt])), (tn_15, .inl (k 0, 6, .inl tng15))]) [0, 1, 2, 3, 4] rfl, hD.sub (ws' := [(ob, .inr (5, [.ref ob_0, .ref ob_1])), (ob_0, .inl (k 0, 6, .inl obg0)), (ob_1, .inl (k 0, 6, .inl obg1)), (tn, .inr (10, [.int tnv0, .int tnv1, .int tnv2, .ref tn_3, .ref tn_4, .ref tn_5, .ref tn_6, .int tnv7, .int tnv8, .ref tn_9, .ref tn_10, .int tnv11, .ref tn_12, .ref tn_13, .ref tn_14, .ref tn_15, .int tnv16, .ref tn_17, .ref tn_18, .ref tnt])), (tn_15, .inl (k 0, 6, .inl tng15))]) [0, 1, 2, 3, 4] (by decide +kernel) rfl, hS, lv_sub hl [1, 2, 3, 4, 5, 6, 0] rfl⟩
          · skip
            have zh_9 : x_2.toInt ≤ x_8.toInt := z_nlt h_9
            refine lv_aload_n hx hb dX5_packs_59 rfl (lv_at hl 0 rfl) ?_
            refine va_get (D := D) (ci := 5) (v := .ref ob_0) (C := RX5) (T := TX5) (N := 2) hx hb hts iT_X5 hown hK hP 0 rfl rfl 0 (by decide) (hts _ tw_2_148) (fun _ h9 => h9) rfl dX5_packs_60 ?_
            refine lv_iload hx hb dX5_packs_63 (lv_at hl 6 rfl) ?_
            refine lv_dup2_11 hx hb dX5_packs_65 rfl rfl ?_
            refine va_iald hx hb hK hP 1 0 rfl rfl (z_in (by omega) (by omega)) dX5_packs_66 ?_
            refine lv_topi (fun x_11 ex_11 => ?_)
            obtain rfl : x_8 = x_11 := ex_8.trans ex_11.symm
            refine lv_iload hx hb dX5_packs_67 (lv_at hl 5 rfl) ?_
            refine lv_isub hx hb dX5_packs_69 ?_
            refine lv_topi (fun x_12 ex_12 => ?_)
            have zrx_8 := z_rng x_8
            have zrx_2 := z_rng x_2
            refine va_iast hx hb hK hP hD hS 1 0 rfl rfl (z_in (by omega) (by omega)) dX5_packs_70 (fun H locs hP hD hS => ?_)
            obtain ⟨g_13, eg_13⟩ : ∃ z : Nat → Int32, upd obg0 L27l6.toNatClampNeg x_12 = z := ⟨_, rfl⟩
            have hP : va_P D vwCl [(ob, .inr (5, [.ref ob_0, .ref ob_1])), (ob_0, .inl (k 0, 6, .inl (upd obg0 L27l6.toNatClampNeg x_12))), (ob_1, .inl (k 0, 6, .inl obg1)), (tn, .inr (10, [.int tnv0, .int tnv1, .int tnv2, .ref tn_3, .ref tn_4, .ref tn_5, .ref tn_6, .int tnv7, .int tnv8, .ref tn_9, .ref tn_10, .int tnv11, .ref tn_12, .ref tn_13, .ref tn_14, .ref tn_15, .int tnv16, .ref tn_17, .ref tn_18, .ref tnt])), (tn_15, .inl (k 0, 6, .inl tng15))] H := hP
            have hD : va_D A [(ob, .inr (5, [.ref ob_0, .ref ob_1])), (ob_0, .inl (k 0, 6, .inl (upd obg0 L27l6.toNatClampNeg x_12))), (ob_1, .inl (k 0, 6, .inl obg1)), (tn, .inr (10, [.int tnv0, .int tnv1, .int tnv2, .ref tn_3, .ref tn_4, .ref tn_5, .ref tn_6, .int tnv7, .int tnv8, .ref tn_9, .ref tn_10, .int tnv11, .ref tn_12, .ref tn_13, .ref tn_14, .ref tn_15, .int tnv16, .ref tn_17, .ref tn_18, .ref tnt])), (tn_15, .inl (k 0, 6, .inl tng15))] := hD
            rw [eg_13] at hP hD
            refine lv_aload_n hx hb dX5_packs_71 rfl (lv_at hl 0 rfl) ?_
            refine va_get (D := D) (ci := 5) (v := .ref ob_1) (C := RX5) (T := TX5) (N := 2) hx hb hts iT_X5 hown hK hP 0 rfl rfl 1 (by decide) (hts _ tw_2_149) (fun _ h9 => h9) rfl dX5_packs_72 ?_
            refine lv_iload_n hx hb dX5_packs_75 rfl (lv_at hl 2 rfl) ?_
            refine lv_iload hx hb dX5_packs_76 (lv_at hl 6 rfl) ?_
            refine va_iast hx hb hK hP hD hS 2 0 rfl rfl (z_in (by decide) (by decide)) dX5_packs_78 (fun H locs hP hD hS => ?_)
            obtain ⟨g_14, eg_14⟩ : ∃ z : Nat → Int32, upd obg1 5 L27l6 = z := ⟨_, rfl⟩
            have hP : va_P D vwCl [(ob, .inr (5, [.ref ob_0, .ref ob_1])), (ob_0, .inl (k 0, 6, .inl g_13)), (ob_1, .inl (k 0, 6, .inl (upd obg1 5 L27l6))), (tn, .inr (10, [.int tnv0, .int tnv1, .int tnv2, .ref tn_3, .ref tn_4, .ref tn_5, .ref tn_6, .int tnv7, .int tnv8, .ref tn_9, .ref tn_10, .int tnv11, .ref tn_12, .ref tn_13, .ref tn_14, .ref tn_15, .int tnv16, .ref tn_17, .ref tn_18, .ref tnt])), (tn_15, .inl (k 0, 6, .inl tng15))] H := hP
            have hD : va_D A [(ob, .inr (5, [.ref ob_0, .ref ob_1])), (ob_0, .inl (k 0, 6, .inl g_13)), (ob_1, .inl (k 0, 6, .inl (upd obg1 5 L27l6))), (tn, .inr (10, [.int tnv0, .int tnv1, .int tnv2, .ref tn_3, .ref tn_4, .ref tn_5, .ref tn_6, .int tnv7, .int tnv8, .ref tn_9, .ref tn_10, .int tnv11, .ref tn_12, .ref tn_13, .ref tn_14, .ref tn_15, .int tnv16, .ref tn_17, .ref tn_18, .ref tnt])), (tn_15, .inl (k 0, 6, .inl tng15))] := hD
            rw [eg_14] at hP hD
            refine lv_aload_n hx hb dX5_packs_79 rfl (lv_at hl 0 rfl) ?_
            refine lv_aload_n hx hb dX5_packs_80 rfl (lv_at hl 1 rfl) ?_
            refine lv_iload_n hx hb dX5_packs_81 rfl (lv_at hl 2 rfl) ?_
            refine lv_iconst (v := 1) hx hb dX5_packs_82 (by decide) ?_
            refine lv_iadd hx hb dX5_packs_83 ?_
            refine lv_topi (fun x_15 ex_15 => ?_)
            obtain rfl : x_15 = 6 := ex_15.trans (by decide)
            refine lv_iload_n hx hb dX5_packs_84 rfl (lv_at hl 3 rfl) ?_
            refine lv_iload hx hb dX5_packs_85 (lv_at hl 6 rfl) ?_
            refine lv_iconst (v := 1) hx hb dX5_packs_87 (by decide) ?_
            refine lv_iadd hx hb dX5_packs_88 ?_
            refine lv_topi (fun x_16 ex_16 => ?_)
            have zx_16 : x_16.toInt = L27l6.toInt + 1 := by rw [ex_16]; exact z_add rfl rfl (by omega) (by omega)
            obtain ⟨hPc, hDc, hFc⟩ := sub3 hP hD hS hA (ws' := []) [] (by decide +kernel) rfl
            refine va_calli (va_runS (As := [.int p2, .int x_16]) (rest := [.int 6, .ref tn, .ref ob]) ⟨hx, hb, hml, hown, hts⟩ (c_J9_max_7cf53 l D k p2 x_16 H.size) (va_cwS 2 hts (gS tw_5_84 tw_4_11 tw_1_14 tw_4_12) rfl rfl rfl hdS_J9_max_7cf53 ⟨Nat.le_of_ble_eq_true rfl, Nat.le_of_ble_eq_true rfl⟩) (cz_S hK hPc hDc hN [.int p2, .int x_16]) rfl rfl hl.1 rfl (lv_room (Nat.le_of_ble_eq_true rfl)) dX5_packs_89 ⟨Nat.le_of_ble_eq_true rfl, Nat.le_of_ble_eq_true rfl⟩) hS (fun q _ h => hFc q h) hFc (fun r_17 uZ tZ H1 locs ht hvm hw hB hz1 hk1 hS => ?_)
            obtain ⟨hP1, hK1, hD1⟩ := hB
            rw [ht] at hP1
            obtain ⟨hP, hD⟩ := va_join (wr := [(ob, .inr (5, [.ref ob_0, .ref ob_1])), (ob_0, .inl (k 0, 6, .inl g_13)), (ob_1, .inl (k 0, 6, .inl g_14)), (tn, .inr (10, [.int tnv0, .int tnv1, .int tnv2, .ref tn_3, .ref tn_4, .ref tn_5, .ref tn_6, .int tnv7, .int tnv8, .ref tn_9, .ref tn_10, .int tnv11, .ref tn_12, .ref tn_13, .ref tn_14, .ref tn_15, .int tnv16, .ref tn_17, .ref tn_18, .ref tnt])), (tn_15, .inl (k 0, 6, .inl tng15))]) (w1 := []) hP hD [] [0, 1, 2, 3, 4] rfl rfl (by decide +kernel) (by decide +kernel) hk1 hFc hP1 hD1
            clear hK1 hP1 hD1 hPc hDc hFc
            clear hk1 hz1 ht hvm
            have hP : va_P D vwCl [(ob, .inr (5, [.ref ob_0, .ref ob_1])), (ob_0, .inl (k 0, 6, .inl g_13)), (ob_1, .inl (k 0, 6, .inl g_14)), (tn, .inr (10, [.int tnv0, .int tnv1, .int tnv2, .ref tn_3, .ref tn_4, .ref tn_5, .ref tn_6, .int tnv7, .int tnv8, .ref tn_9, .ref tn_10, .int tnv11, .ref tn_12, .ref tn_13, .ref tn_14, .ref tn_15, .int tnv16, .ref tn_17, .ref tn_18, .ref tnt])), (tn_15, .inl (k 0, 6, .inl tng15))] H1 := hP
            have hD : va_D A [(ob, .inr (5, [.ref ob_0, .ref ob_1])), (ob_0, .inl (k 0, 6, .inl g_13)), (ob_1, .inl (k 0, 6, .inl g_14)), (tn, .inr (10, [.int tnv0, .int tnv1, .int tnv2, .ref tn_3, .ref tn_4, .ref tn_5, .ref tn_6, .int tnv7, .int tnv8, .ref tn_9, .ref tn_10, .int tnv11, .ref tn_12, .ref tn_13, .ref tn_14, .ref tn_15, .int tnv16, .ref tn_17, .ref tn_18, .ref tnt])), (tn_15, .inl (k 0, 6, .inl tng15))] := hD
            generalize H1 = H at hP hS ⊢
            have hw_18 : (p2.toInt ≤ r_17.toInt ∧ x_16.toInt ≤ r_17.toInt ∧ (r_17.toInt = p2.toInt ∨ r_17.toInt = x_16.toInt)) := hw
            have hw_19 := hw_18
            clear hw
            refine lv_iload hx hb dX5_packs_92 (lv_at hl 4 rfl) ?_
            obtain ⟨hPc, hDc, hFc⟩ := sub3 hP hD hS hA (ws' := [(ob, .inr (5, [.ref ob_0, .ref ob_1])), (tn, .inr (10, [.int tnv0, .int tnv1, .int tnv2, .ref tn_3, .ref tn_4, .ref tn_5, .ref tn_6, .int tnv7, .int tnv8, .ref tn_9, .ref tn_10, .int tnv11, .ref tn_12, .ref tn_13, .ref tn_14, .ref tn_15, .int tnv16, .ref tn_17, .ref tn_18, .ref tnt]))]) [0, 3] (by decide +kernel) rfl
            refine va_calli (va_runV (C := RX5) (As := [.ref tn, .int 6, .int r_17, .int p3]) (rest := []) ⟨hx, hb, hml, hown, hts⟩ (c_X5_packs_0 l D k ob tn r_17 p3 ob_0 ob_1 tnv0 tnv1 tnv2 tn_3 tn_4 tn_5 tn_6 tnv7 tnv8 tn_9 tn_10 tnv11 tn_12 tn_13 tn_14 tn_15 tnv16 tn_17 tn_18 tnt H.size (show 0 ≤ tnv0.toInt ∧ tnv0.toInt ≤ 8 from by omega) (show 0 ≤ tnv2.toInt ∧ tnv2.toInt ≤ 10 from by omega) (show 0 ≤ tnv8.toInt ∧ tnv8.toInt ≤ 4 from by omega) (show 0 ≤ tnv11.toInt ∧ tnv11.toInt ≤ 6 from by omega) (show 0 ≤ tnv16.toInt ∧ tnv16.toInt ≤ 2 from by omega)) (cwV 4 hts (gV tw_5_80 tw_5_82 tw_p_31 tw_1_11 tw_5_83) rfl rfl rfl hdV_X5_packs ⟨Nat.le_of_ble_eq_true rfl, Nat.le_of_ble_eq_true rfl⟩) (cz_V hK hPc hDc hN (ci := 5) (q0 := 0) rfl rfl [.ref tn, .int 6, .int r_17, .int p3]) rfl rfl hl.1 rfl (lv_room (Nat.le_of_ble_eq_true rfl)) dX5_packs_94 ⟨Nat.le_of_ble_eq_true rfl, Nat.le_of_ble_eq_true rfl⟩) hS (fun q _ h => hFc q h) hFc (fun r_20 uZ tZ H1 locs ht hvm hw hB hz1 hk1 hS => ?_)
            obtain ⟨hP1, hK1, hD1⟩ := hB
            rw [ht] at hP1
            obtain ⟨hP, hD⟩ := va_join (wr := [(ob_0, .inl (k 0, 6, .inl g_13)), (ob_1, .inl (k 0, 6, .inl g_14)), (tn_15, .inl (k 0, 6, .inl tng15))]) (w1 := [(ob, .inr (5, [.ref ob_0, .ref ob_1])), (tn, .inr (10, [.int tnv0, .int tnv1, .int tnv2, .ref tn_3, .ref tn_4, .ref tn_5, .ref tn_6, .int tnv7, .int tnv8, .ref tn_9, .ref tn_10, .int tnv11, .ref tn_12, .ref tn_13, .ref tn_14, .ref tn_15, .int tnv16, .ref tn_17, .ref tn_18, .ref tnt]))]) hP hD [0, 3] [1, 2, 4] rfl rfl (by decide +kernel) (by decide +kernel) hk1 hFc hP1 hD1
            clear hK1 hP1 hD1 hPc hDc hFc
            clear hk1 hz1 ht hvm
            have hP : va_P D vwCl [(ob_0, .inl (k 0, 6, .inl g_13)), (ob_1, .inl (k 0, 6, .inl g_14)), (tn_15, .inl (k 0, 6, .inl tng15)), (ob, .inr (5, [.ref ob_0, .ref ob_1])), (tn, .inr (10, [.int tnv0, .int tnv1, .int tnv2, .ref tn_3, .ref tn_4, .ref tn_5, .ref tn_6, .int tnv7, .int tnv8, .ref tn_9, .ref tn_10, .int tnv11, .ref tn_12, .ref tn_13, .ref tn_14, .ref tn_15, .int tnv16, .ref tn_17, .ref tn_18, .ref tnt]))] H1 := hP
            have hD : va_D A [(ob_0, .inl (k 0, 6, .inl g_13)), (ob_1, .inl (k 0, 6, .inl g_14)), (tn_15, .inl (k 0, 6, .inl tng15)), (ob, .inr (5, [.ref ob_0, .ref ob_1])), (tn, .inr (10, [.int tnv0, .int tnv1, .int tnv2, .ref tn_3, .ref tn_4, .ref tn_5, .ref tn_6, .int tnv7, .int tnv8, .ref tn_9, .ref tn_10, .int tnv11, .ref tn_12, .ref tn_13, .ref tn_14, .ref tn_15, .int tnv16, .ref tn_17, .ref tn_18, .ref tnt]))] := hD
            generalize H1 = H at hP hS ⊢
            have hw_21 : (1 ≤ r_20.toInt ∧ r_20.toInt ≤ 1) := hw
            have hw_22 := hw_21
            clear hw
            refine lv_if_eq (tgt := 102) hx hb dX5_packs_97 (by decide) (fun h_23 => ?_) (fun h_23 => ?_)
            · skip
              have zh_23 : r_20.toInt = 0 := z_eq h_23
              exact False.elim (by omega)
            · skip
              have zh_23 : ¬ r_20.toInt = 0 := z_ne h_23
              refine lv_iconst (v := 1) hx hb dX5_packs_100 (by decide) ?_
              obtain ⟨hP9, hD9⟩ := sub2 hP hD (ws' := [(ob, .inr (5, [.ref ob_0, .ref ob_1])), (ob_0, .inl (k 0, 6, .inl g_13)), (ob_1, .inl (k 0, 6, .inl g_14)), (tn, .inr (10, [.int tnv0, .int tnv1, .int tnv2, .ref tn_3, .ref tn_4, .ref tn_5, .ref tn_6, .int tnv7, .int tnv8, .ref tn_9, .ref tn_10, .int tnv11, .ref tn_12, .ref tn_13, .ref tn_14, .ref tn_15, .int tnv16, .ref tn_17, .ref tn_18, .ref tnt])), (tn_15, .inl (k 0, 6, .inl tng15))]) [3, 0, 1, 4, 2] (by decide +kernel) rfl
              exact W.zret (v := 1) hx hb hr (by decide) (fun tZ ht hW => ⟨⟨1, (g_13, g_14), rfl, (show 0 ≤ 1 ∧ 1 ≤ 1 from by omega), by rw [ht]; exact hP9, va_K.moved hW.alike hK, hD9⟩, hS.F ht⟩) hS.2.2 dX5_packs_101
set_option maxHeartbeats 4000000 in
set_option maxRecDepth 100000 in
theorem c_X5_packs_2 (l : Launch) (D : va_G) (k : Nat → ClassId) (ob : Nat) (tn : Nat) (p2 : Int32) (p3 : Int32) (ob_0 : Nat) (ob_1 : Nat) (obg0 : Nat → Int32) (obg1 : Nat → Int32) (tnv0 : Int32) (tnv1 : Int32) (tnv2 : Int32) (tn_3 : Nat) (tn_4 : Nat) (tn_5 : Nat) (tn_6 : Nat) (tnv7 : Int32) (tnv8 : Int32) (tn_9 : Nat) (tn_10 : Nat) (tnv11 : Int32) (tn_12 : Nat) (tn_13 : Nat) (tn_14 : Nat) (tn_15 : Nat) (tnv16 : Int32) (tn_17 : Nat) (tn_18 : Nat) (tnt : Nat) (tng15 : Nat → Int32) (sz : Nat) (h_tnv0 : 0 ≤ tnv0.toInt ∧ tnv0.toInt ≤ 8) (h_tnv2 : 0 ≤ tnv2.toInt ∧ tnv2.toInt ≤ 10) (h_tnv8 : 0 ≤ tnv8.toInt ∧ tnv8.toInt ≤ 4) (h_tnv11 : 0 ≤ tnv11.toInt ∧ tnv11.toInt ≤ 6) (h_tnv16 : 0 ≤ tnv16.toInt ∧ tnv16.toInt ≤ 2) : Met l yX5_packs (ww yX5_packs cX5_packs 7 (some .boolean)) ({ frames := 2, cells := 0, slots := 0, locals := 52 }) (Pre0 D k [(ob, .inr (5, [.ref ob_0, .ref ob_1])), (ob_0, .inl (k 0, 6, .inl obg0)), (ob_1, .inl (k 0, 6, .inl obg1)), (tn, .inr (10, [.int tnv0, .int tnv1, .int tnv2, .ref tn_3, .ref tn_4, .ref tn_5, .ref tn_6, .int tnv7, .int tnv8, .ref tn_9, .ref tn_10, .int tnv11, .ref tn_12, .ref tn_13, .ref tn_14, .ref tn_15, .int tnv16, .ref tn_17, .ref tn_18, .ref tnt])), (tn_15, .inl (k 0, 6, .inl tng15))] sz [.ref ob, .ref tn, .int 4, .int p2, .int p3]) (va_Qi (fun (r : Int32) (u : (Nat → Int32) × (Nat → Int32)) => match u with | (obg0z, obg1z) => (0 ≤ r.toInt ∧ r.toInt ≤ 1)) (fun (u : (Nat → Int32) × (Nat → Int32)) tZ => match u with | (obg0z, obg1z) => Bw D k (va_A [(ob, .inr (5, [.ref ob_0, .ref ob_1])), (ob_0, .inl (k 0, 6, .inl obg0)), (ob_1, .inl (k 0, 6, .inl obg1)), (tn, .inr (10, [.int tnv0, .int tnv1, .int tnv2, .ref tn_3, .ref tn_4, .ref tn_5, .ref tn_6, .int tnv7, .int tnv8, .ref tn_9, .ref tn_10, .int tnv11, .ref tn_12, .ref tn_13, .ref tn_14, .ref tn_15, .int tnv16, .ref tn_17, .ref tn_18, .ref tnt])), (tn_15, .inl (k 0, 6, .inl tng15))] sz) [(ob, .inr (5, [.ref ob_0, .ref ob_1])), (ob_0, .inl (k 0, 6, .inl obg0z)), (ob_1, .inl (k 0, 6, .inl obg1z)), (tn, .inr (10, [.int tnv0, .int tnv1, .int tnv2, .ref tn_3, .ref tn_4, .ref tn_5, .ref tn_6, .int tnv7, .int tnv8, .ref tn_9, .ref tn_10, .int tnv11, .ref tn_12, .ref tn_13, .ref tn_14, .ref tn_15, .int tnv16, .ref tn_17, .ref tn_18, .ref tnt])), (tn_15, .inl (k 0, 6, .inl tng15))] tZ) (va_A [(ob, .inr (5, [.ref ob_0, .ref ob_1])), (ob_0, .inl (k 0, 6, .inl obg0)), (ob_1, .inl (k 0, 6, .inl obg1)), (tn, .inr (10, [.int tnv0, .int tnv1, .int tnv2, .ref tn_3, .ref tn_4, .ref tn_5, .ref tn_6, .int tnv7, .int tnv8, .ref tn_9, .ref tn_10, .int tnv11, .ref tn_12, .ref tn_13, .ref tn_14, .ref tn_15, .int tnv16, .ref tn_17, .ref tn_18, .ref tnt])), (tn_15, .inl (k 0, 6, .inl tng15))] sz)) 0 0 (va_A [(ob, .inr (5, [.ref ob_0, .ref ob_1])), (ob_0, .inl (k 0, 6, .inl obg0)), (ob_1, .inl (k 0, 6, .inl obg1)), (tn, .inr (10, [.int tnv0, .int tnv1, .int tnv2, .ref tn_3, .ref tn_4, .ref tn_5, .ref tn_6, .int tnv7, .int tnv8, .ref tn_9, .ref tn_10, .int tnv11, .ref tn_12, .ref tn_13, .ref tn_14, .ref tn_15, .int tnv16, .ref tn_17, .ref tn_18, .ref tnt])), (tn_15, .inl (k 0, 6, .inl tng15))] sz) := by
  refine Met.ofW (cc := cX5_packs) (maxL := 7) (ret := (some .boolean)) (by decide +kernel) rfl ?_
  intro p e s m args below meth c s₁ B hml hv
  obtain ⟨rfl, hsz, hP, hK, hD0, hN⟩ := hv
  have hx := B.exec
  have hb := B.bytes
  have hr := B.returns
  have hts : ∀ w ∈ TT, w.before _ s = true := fun w h => atoms_spec (ws := ww yX5_packs cX5_packs 7 (some .boolean)) B.pre w (List.mem_cons_of_mem _ h)
  have hown : s.vm.findClass RX5 = some m.cls := findClass_of_methodNamed B.named
  have hlocks := B.notSynchronized
  subst hsz
  have hD := hD0.self (sz := s.heap.size)
  generalize hAe : va_A [(ob, .inr (5, [.ref ob_0, .ref ob_1])), (ob_0, .inl (k 0, 6, .inl obg0)), (ob_1, .inl (k 0, 6, .inl obg1)), (tn, .inr (10, [.int tnv0, .int tnv1, .int tnv2, .ref tn_3, .ref tn_4, .ref tn_5, .ref tn_6, .int tnv7, .int tnv8, .ref tn_9, .ref tn_10, .int tnv11, .ref tn_12, .ref tn_13, .ref tn_14, .ref tn_15, .int tnv16, .ref tn_17, .ref tn_18, .ref tnt])), (tn_15, .inl (k 0, 6, .inl tng15))] s.heap.size = A at hD ⊢
  have hA : ∀ q : Nat, s.heap.size ≤ q → A q := fun q h => by rw [← hAe]; exact Or.inr h
  have hS : va_S A s.heap s.heap [] := va_S.rf
  have hl := lv_entry ([.ref ob, .ref tn, .int 4, .int p2, .int p3]) (n := 7) (Nat.le_of_ble_eq_true rfl)
  rw [lg_entry_eq]
  generalize (lg_sl ([.ref ob, .ref tn, .int 4, .int p2, .int p3]) ++ List.replicate (7 - (lg_sl ([.ref ob, .ref tn, .int 4, .int p2, .int p3])).length) Slot.unset).toArray = ls at hl ⊢
  have hl : lv_has ls 7 [(0, .ref ob), (1, .ref tn), (2, .int 4), (3, .int p2), (4, .int p3)] := hl
  refine lv_iload_n hx hb dX5_packs_0 rfl (lv_at hl 2 rfl) ?_
  refine lv_aload_n hx hb dX5_packs_1 rfl (lv_at hl 1 rfl) ?_
  refine va_get (D := D) (ci := 10) (v := .int tnv11) (C := RX10) (T := TX10) (N := 20) hx hb hts iT_X10 hown hK hP 3 rfl rfl 11 (by decide) (hts _ tw_1_120) (fun _ h9 => h9) rfl dX5_packs_2 ?_
  refine lv_icmp_ge (tgt := 14) hx hb dX5_packs_5 (by decide) (fun h_1 => ?_) (fun h_1 => ?_)
  · skip
    have zh_1 : tnv11.toInt ≤ 4 := z_le h_1
    refine lv_iconst (v := 1) hx hb dX5_packs_14 (by decide) ?_
    obtain ⟨hP9, hD9⟩ := sub2 hP hD (ws' := [(ob, .inr (5, [.ref ob_0, .ref ob_1])), (ob_0, .inl (k 0, 6, .inl obg0)), (ob_1, .inl (k 0, 6, .inl obg1)), (tn, .inr (10, [.int tnv0, .int tnv1, .int tnv2, .ref tn_3, .ref tn_4, .ref tn_5, .ref tn_6, .int tnv7, .int tnv8, .ref tn_9, .ref tn_10, .int tnv11, .ref tn_12, .ref tn_13, .ref tn_14, .ref tn_15, .int tnv16, .ref tn_17, .ref tn_18, .ref tnt])), (tn_15, .inl (k 0, 6, .inl tng15))]) [0, 1, 2, 3, 4] (by decide +kernel) rfl
    exact W.zret (v := 1) hx hb hr (by decide) (fun tZ ht hW => ⟨⟨1, (obg0, obg1), rfl, (show 0 ≤ 1 ∧ 1 ≤ 1 from by omega), by rw [ht]; exact hP9, va_K.moved hW.alike hK, hD9⟩, hS.F ht⟩) hS.2.2 dX5_packs_15
  · skip
    have zh_1 : 4 < tnv11.toInt := z_nle h_1
    refine lv_iload_n hx hb dX5_packs_8 rfl (lv_at hl 2 rfl) ?_
    refine lv_bipush (v := 6) hx hb dX5_packs_9 (by decide) ?_
    refine lv_icmp_lt (tgt := 16) hx hb dX5_packs_11 (by decide) (fun _ => ?_) (fun c9 => absurd c9 (by decide))
    refine lv_aload_n hx hb dX5_packs_16 rfl (lv_at hl 1 rfl) ?_
    refine va_get (D := D) (ci := 10) (v := .ref tn_15) (C := RX10) (T := TX10) (N := 20) hx hb hts iT_X10 hown hK hP 3 rfl rfl 15 (by decide) (hts _ tw_1_139) (fun _ h9 => h9) rfl dX5_packs_17 ?_
    refine lv_iload_n hx hb dX5_packs_20 rfl (lv_at hl 2 rfl) ?_
    refine va_iald hx hb hK hP 4 0 rfl rfl (z_in (by decide) (by decide)) dX5_packs_21 ?_
    refine lv_topi (fun x_2 ex_2 => ?_)
    refine lv_istore (lv' := [(5, .int x_2), (0, .ref ob), (1, .ref tn), (2, .int 4), (3, .int p2), (4, .int p3)]) hx hb dX5_packs_22 hl (by decide) rfl (fun ls hl => ?_)
    refine lv_iconst (v := 0) hx hb dX5_packs_24 (by decide) ?_
    refine lv_istore (lv' := [(6, .int 0), (5, .int x_2), (0, .ref ob), (1, .ref tn), (2, .int 4), (3, .int p2), (4, .int p3)]) hx hb dX5_packs_25 hl (by decide) rfl (fun ls hl => ?_)
    refine loop_r (Wg := fun H locs ls => W p l e _ s m _ below meth c H locs _ _ _ (F0 m 27 ls [])) (fun n9 H locs ls => ∃ (L27l6 : Int32) (L27a1 : Nat → Int32) (L27a2 : Nat → Int32), n9 = (6 - L27l6.toInt).toNat ∧ (0 ≤ L27l6.toInt ∧ L27l6.toInt ≤ 6) ∧ va_P D vwCl [(ob, .inr (5, [.ref ob_0, .ref ob_1])), (ob_0, .inl (k 0, 6, .inl L27a1)), (ob_1, .inl (k 0, 6, .inl L27a2)), (tn, .inr (10, [.int tnv0, .int tnv1, .int tnv2, .ref tn_3, .ref tn_4, .ref tn_5, .ref tn_6, .int tnv7, .int tnv8, .ref tn_9, .ref tn_10, .int tnv11, .ref tn_12, .ref tn_13, .ref tn_14, .ref tn_15, .int tnv16, .ref tn_17, .ref tn_18, .ref tnt])), (tn_15, .inl (k 0, 6, .inl tng15))] H ∧ va_D A [(ob, .inr (5, [.ref ob_0, .ref ob_1])), (ob_0, .inl (k 0, 6, .inl L27a1)), (ob_1, .inl (k 0, 6, .inl L27a2)), (tn, .inr (10, [.int tnv0, .int tnv1, .int tnv2, .ref tn_3, .ref tn_4, .ref tn_5, .ref tn_6, .int tnv7, .int tnv8, .ref tn_9, .ref tn_10, .int tnv11, .ref tn_12, .ref tn_13, .ref tn_14, .ref tn_15, .int tnv16, .ref tn_17, .ref tn_18, .ref tnt])), (tn_15, .inl (k 0, 6, .inl tng15))] ∧ va_S A s.heap H locs ∧ lv_has ls 7 [(0, .ref ob), (1, .ref tn), (2, .int 4), (3, .int p2), (4, .int p3), (5, .int x_2), (6, .int L27l6)]) (fun n9 H locs ls hI ih_3 => ?_) _ _ _ _ ⟨0, obg0, obg1, rfl, (show 0 ≤ 0 ∧ 0 ≤ 6 from by omega), hP.sub (ws' := [(ob, .inr (5, [.ref ob_0, .ref ob_1])), (ob_0, .inl (k 0, 6, .inl obg0)), (ob_1, .inl (k 0, 6, .inl obg1)), (tn, .inr (10, [.int tnv0, .int tnv1, .int tnv2, .ref tn_3, .ref tn_4, .ref tn_5, .ref tn_6, .int tnv7, .int tnv8, .ref tn_9, .ref tn_10, .int tnv11, .ref tn_12, .ref tn_13, .ref tn_14, .ref tn_15, .int tnv16, .ref tn_17, .ref tn_18, .ref tnt])), (tn_15, .inl (k 0, 6, .inl tng15))]) [0, 1, 2, 3, 4] rfl, hD.sub (ws' := [(ob, .inr (5, [.ref ob_0, .ref ob_1])), (ob_0, .inl (k 0, 6, .inl obg0)), (ob_1, .inl (k 0, 6, .inl obg1)), (tn, .inr (10, [.int tnv0, .int tnv1, .int tnv2, .ref tn_3, .ref tn_4, .ref tn_5, .ref tn_6, .int tnv7, .int tnv8, .ref tn_9, .ref tn_10, .int tnv11, .ref tn_12, .ref tn_13, .ref tn_14, .ref tn_15, .int tnv16, .ref tn_17, .ref tn_18, .ref tnt])), (tn_15, .inl (k 0, 6, .inl tng15))]) [0, 1, 2, 3, 4] (by decide +kernel) rfl, hS, lv_sub hl [2, 3, 4, 5, 6, 1, 0] rfl⟩
    clear hP hD hS hl
    obtain ⟨L27l6, L27a1, L27a2, en_4, zL27l6, hP, hD, hS, hl⟩ := hI
    refine lv_iload hx hb dX5_packs_27 (lv_at hl 6 rfl) ?_
    refine lv_iload_n hx hb dX5_packs_29 rfl (lv_at hl 3 rfl) ?_
    refine lv_icmp_gt (tgt := 120) hx hb dX5_packs_30 (by decide) (fun h_5 => ?_) (fun h_5 => ?_)
    · skip
      have zh_5 : p2.toInt < L27l6.toInt := z_lt h_5
      refine lv_iconst (v := 0) hx hb dX5_packs_120 (by decide) ?_
      obtain ⟨hP9, hD9⟩ := sub2 hP hD (ws' := [(ob, .inr (5, [.ref ob_0, .ref ob_1])), (ob_0, .inl (k 0, 6, .inl L27a1)), (ob_1, .inl (k 0, 6, .inl L27a2)), (tn, .inr (10, [.int tnv0, .int tnv1, .int tnv2, .ref tn_3, .ref tn_4, .ref tn_5, .ref tn_6, .int tnv7, .int tnv8, .ref tn_9, .ref tn_10, .int tnv11, .ref tn_12, .ref tn_13, .ref tn_14, .ref tn_15, .int tnv16, .ref tn_17, .ref tn_18, .ref tnt])), (tn_15, .inl (k 0, 6, .inl tng15))]) [0, 1, 2, 3, 4] (by decide +kernel) rfl
      exact W.zret (v := 0) hx hb hr (by decide) (fun tZ ht hW => ⟨⟨0, (L27a1, L27a2), rfl, (show 0 ≤ 0 ∧ 0 ≤ 1 from by omega), by rw [ht]; exact hP9, va_K.moved hW.alike hK, hD9⟩, hS.F ht⟩) hS.2.2 dX5_packs_121
    · skip
      have zh_5 : L27l6.toInt ≤ p2.toInt := z_nlt h_5
      refine lv_iload hx hb dX5_packs_33 (lv_at hl 6 rfl) ?_
      refine lv_iload hx hb dX5_packs_35 (lv_at hl 4 rfl) ?_
      refine lv_icmp_ge (tgt := 120) hx hb dX5_packs_37 (by decide) (fun h_6 => ?_) (fun h_6 => ?_)
      · skip
        have zh_6 : p3.toInt ≤ L27l6.toInt := z_le h_6
        refine lv_iconst (v := 0) hx hb dX5_packs_120 (by decide) ?_
        obtain ⟨hP9, hD9⟩ := sub2 hP hD (ws' := [(ob, .inr (5, [.ref ob_0, .ref ob_1])), (ob_0, .inl (k 0, 6, .inl L27a1)), (ob_1, .inl (k 0, 6, .inl L27a2)), (tn, .inr (10, [.int tnv0, .int tnv1, .int tnv2, .ref tn_3, .ref tn_4, .ref tn_5, .ref tn_6, .int tnv7, .int tnv8, .ref tn_9, .ref tn_10, .int tnv11, .ref tn_12, .ref tn_13, .ref tn_14, .ref tn_15, .int tnv16, .ref tn_17, .ref tn_18, .ref tnt])), (tn_15, .inl (k 0, 6, .inl tng15))]) [0, 1, 2, 3, 4] (by decide +kernel) rfl
        exact W.zret (v := 0) hx hb hr (by decide) (fun tZ ht hW => ⟨⟨0, (L27a1, L27a2), rfl, (show 0 ≤ 0 ∧ 0 ≤ 1 from by omega), by rw [ht]; exact hP9, va_K.moved hW.alike hK, hD9⟩, hS.F ht⟩) hS.2.2 dX5_packs_121
      · skip
        have zh_6 : L27l6.toInt < p3.toInt := z_nle h_6
        refine lv_iload hx hb dX5_packs_40 (lv_at hl 6 rfl) ?_
        refine lv_bipush (v := 6) hx hb dX5_packs_42 (by decide) ?_
        refine lv_icmp_ge (tgt := 120) hx hb dX5_packs_44 (by decide) (fun h_7 => ?_) (fun h_7 => ?_)
        · skip
          have zh_7 : 6 ≤ L27l6.toInt := z_le h_7
          refine lv_iconst (v := 0) hx hb dX5_packs_120 (by decide) ?_
          obtain ⟨hP9, hD9⟩ := sub2 hP hD (ws' := [(ob, .inr (5, [.ref ob_0, .ref ob_1])), (ob_0, .inl (k 0, 6, .inl L27a1)), (ob_1, .inl (k 0, 6, .inl L27a2)), (tn, .inr (10, [.int tnv0, .int tnv1, .int tnv2, .ref tn_3, .ref tn_4, .ref tn_5, .ref tn_6, .int tnv7, .int tnv8, .ref tn_9, .ref tn_10, .int tnv11, .ref tn_12, .ref tn_13, .ref tn_14, .ref tn_15, .int tnv16, .ref tn_17, .ref tn_18, .ref tnt])), (tn_15, .inl (k 0, 6, .inl tng15))]) [0, 1, 2, 3, 4] (by decide +kernel) rfl
          exact W.zret (v := 0) hx hb hr (by decide) (fun tZ ht hW => ⟨⟨0, (L27a1, L27a2), rfl, (show 0 ≤ 0 ∧ 0 ≤ 1 from by omega), by rw [ht]; exact hP9, va_K.moved hW.alike hK, hD9⟩, hS.F ht⟩) hS.2.2 dX5_packs_121
        · skip
          have zh_7 : L27l6.toInt < 6 := z_nle h_7
          refine lv_aload_n hx hb dX5_packs_47 rfl (lv_at hl 0 rfl) ?_
          refine va_get (D := D) (ci := 5) (v := .ref ob_0) (C := RX5) (T := TX5) (N := 2) hx hb hts iT_X5 hown hK hP 0 rfl rfl 0 (by decide) (hts _ tw_2_148) (fun _ h9 => h9) rfl dX5_packs_48 ?_
          refine lv_iload hx hb dX5_packs_51 (lv_at hl 6 rfl) ?_
          refine va_iald hx hb hK hP 1 0 rfl rfl (z_in (by omega) (by omega)) dX5_packs_53 ?_
          refine lv_topi (fun x_8 ex_8 => ?_)
          refine lv_iload hx hb dX5_packs_54 (lv_at hl 5 rfl) ?_
          refine lv_icmp_lt (tgt := 114) hx hb dX5_packs_56 (by decide) (fun h_9 => ?_) (fun h_9 => ?_)
          · skip
            have zh_9 : x_8.toInt < x_2.toInt := z_lt h_9
            obtain ⟨x_10, ex_10⟩ : ∃ y : Int32, y = L27l6 + 1 := ⟨_, rfl⟩
            have zx_10 : x_10.toInt = L27l6.toInt + 1 := by rw [ex_10]; exact z_add rfl rfl (by omega) (by omega)
            refine lv_iinc (v := x_10) (lv' := [(6, .int x_10), (0, .ref ob), (1, .ref tn), (2, .int 4), (3, .int p2), (4, .int p3), (5, .int x_2)]) hx hb dX5_packs_114 hl (k := 6) rfl (by rw [ex_10]; rfl) (by decide) rfl (fun ls hl => ?_)
            refine lv_goto (tgt := 27) hx hb dX5_packs_117 (by decide) ?_
            exact ih_3 _ _ _ _ (by omega) ⟨x_10, L27a1, L27a2, rfl, (show 0 ≤ x_10.toInt ∧ x_10.toInt ≤ 6 from by omega), hP.sub (ws' := [(ob, .inr (5, [.ref ob_0, .ref ob_1])), (ob_0, .inl (k 0, 6, .inl L27a1)), (ob_1, .inl (k 0, 6, .inl L27a2)), (tn, .inr (10, [.int tnv0, .int tnv1, .int tnv2, .ref tn_3, .ref tn_4, .ref tn_5, .ref tn_6, .int tnv7, .int tnv8, .ref tn_9, .ref tn_10, .int tnv11, .ref tn_12, .ref tn_13, .ref tn_14, .ref tn_15, .int tnv16, .ref tn_17, .ref tn_18, .ref tnt])), (tn_15, .inl (k 0, 6, .inl tng15))]) [0, 1, 2, 3, 4] rfl, hD.sub (ws' := [(ob, .inr (5, [.ref ob_0, .ref ob_1])), (ob_0, .inl (k 0, 6, .inl L27a1)), (ob_1, .inl (k 0, 6, .inl L27a2)), (tn, .inr (10, [.int tnv0, .int tnv1, .int tnv2, .ref tn_3, .ref tn_4, .ref tn_5, .ref tn_6, .int tnv7, .int tnv8, .ref tn_9, .ref tn_10, .int tnv11, .ref tn_12, .ref tn_13, .ref tn_14, .ref tn_15, .int tnv16, .ref tn_17, .ref tn_18, .ref tnt])), (tn_15, .inl (k 0, 6, .inl tng15))]) [0, 1, 2, 3, 4] (by decide +kernel) rfl, hS, lv_sub hl [1, 2, 3, 4, 5, 6, 0] rfl⟩
          · skip
            have zh_9 : x_2.toInt ≤ x_8.toInt := z_nlt h_9
            refine lv_aload_n hx hb dX5_packs_59 rfl (lv_at hl 0 rfl) ?_
            refine va_get (D := D) (ci := 5) (v := .ref ob_0) (C := RX5) (T := TX5) (N := 2) hx hb hts iT_X5 hown hK hP 0 rfl rfl 0 (by decide) (hts _ tw_2_148) (fun _ h9 => h9) rfl dX5_packs_60 ?_
            refine lv_iload hx hb dX5_packs_63 (lv_at hl 6 rfl) ?_
            refine lv_dup2_11 hx hb dX5_packs_65 rfl rfl ?_
            refine va_iald hx hb hK hP 1 0 rfl rfl (z_in (by omega) (by omega)) dX5_packs_66 ?_
            refine lv_topi (fun x_11 ex_11 => ?_)
            obtain rfl : x_8 = x_11 := ex_8.trans ex_11.symm
            refine lv_iload hx hb dX5_packs_67 (lv_at hl 5 rfl) ?_
            refine lv_isub hx hb dX5_packs_69 ?_
            refine lv_topi (fun x_12 ex_12 => ?_)
            have zrx_8 := z_rng x_8
            have zrx_2 := z_rng x_2
            refine va_iast hx hb hK hP hD hS 1 0 rfl rfl (z_in (by omega) (by omega)) dX5_packs_70 (fun H locs hP hD hS => ?_)
            obtain ⟨g_13, eg_13⟩ : ∃ z : Nat → Int32, upd L27a1 L27l6.toNatClampNeg x_12 = z := ⟨_, rfl⟩
            have hP : va_P D vwCl [(ob, .inr (5, [.ref ob_0, .ref ob_1])), (ob_0, .inl (k 0, 6, .inl (upd L27a1 L27l6.toNatClampNeg x_12))), (ob_1, .inl (k 0, 6, .inl L27a2)), (tn, .inr (10, [.int tnv0, .int tnv1, .int tnv2, .ref tn_3, .ref tn_4, .ref tn_5, .ref tn_6, .int tnv7, .int tnv8, .ref tn_9, .ref tn_10, .int tnv11, .ref tn_12, .ref tn_13, .ref tn_14, .ref tn_15, .int tnv16, .ref tn_17, .ref tn_18, .ref tnt])), (tn_15, .inl (k 0, 6, .inl tng15))] H := hP
            have hD : va_D A [(ob, .inr (5, [.ref ob_0, .ref ob_1])), (ob_0, .inl (k 0, 6, .inl (upd L27a1 L27l6.toNatClampNeg x_12))), (ob_1, .inl (k 0, 6, .inl L27a2)), (tn, .inr (10, [.int tnv0, .int tnv1, .int tnv2, .ref tn_3, .ref tn_4, .ref tn_5, .ref tn_6, .int tnv7, .int tnv8, .ref tn_9, .ref tn_10, .int tnv11, .ref tn_12, .ref tn_13, .ref tn_14, .ref tn_15, .int tnv16, .ref tn_17, .ref tn_18, .ref tnt])), (tn_15, .inl (k 0, 6, .inl tng15))] := hD
            rw [eg_13] at hP hD
            refine lv_aload_n hx hb dX5_packs_71 rfl (lv_at hl 0 rfl) ?_
            refine va_get (D := D) (ci := 5) (v := .ref ob_1) (C := RX5) (T := TX5) (N := 2) hx hb hts iT_X5 hown hK hP 0 rfl rfl 1 (by decide) (hts _ tw_2_149) (fun _ h9 => h9) rfl dX5_packs_72 ?_
            refine lv_iload_n hx hb dX5_packs_75 rfl (lv_at hl 2 rfl) ?_
            refine lv_iload hx hb dX5_packs_76 (lv_at hl 6 rfl) ?_
            refine va_iast hx hb hK hP hD hS 2 0 rfl rfl (z_in (by decide) (by decide)) dX5_packs_78 (fun H locs hP hD hS => ?_)
            obtain ⟨g_14, eg_14⟩ : ∃ z : Nat → Int32, upd L27a2 4 L27l6 = z := ⟨_, rfl⟩
            have hP : va_P D vwCl [(ob, .inr (5, [.ref ob_0, .ref ob_1])), (ob_0, .inl (k 0, 6, .inl g_13)), (ob_1, .inl (k 0, 6, .inl (upd L27a2 4 L27l6))), (tn, .inr (10, [.int tnv0, .int tnv1, .int tnv2, .ref tn_3, .ref tn_4, .ref tn_5, .ref tn_6, .int tnv7, .int tnv8, .ref tn_9, .ref tn_10, .int tnv11, .ref tn_12, .ref tn_13, .ref tn_14, .ref tn_15, .int tnv16, .ref tn_17, .ref tn_18, .ref tnt])), (tn_15, .inl (k 0, 6, .inl tng15))] H := hP
            have hD : va_D A [(ob, .inr (5, [.ref ob_0, .ref ob_1])), (ob_0, .inl (k 0, 6, .inl g_13)), (ob_1, .inl (k 0, 6, .inl (upd L27a2 4 L27l6))), (tn, .inr (10, [.int tnv0, .int tnv1, .int tnv2, .ref tn_3, .ref tn_4, .ref tn_5, .ref tn_6, .int tnv7, .int tnv8, .ref tn_9, .ref tn_10, .int tnv11, .ref tn_12, .ref tn_13, .ref tn_14, .ref tn_15, .int tnv16, .ref tn_17, .ref tn_18, .ref tnt])), (tn_15, .inl (k 0, 6, .inl tng15))] := hD
            rw [eg_14] at hP hD
            refine lv_aload_n hx hb dX5_packs_79 rfl (lv_at hl 0 rfl) ?_
            refine lv_aload_n hx hb dX5_packs_80 rfl (lv_at hl 1 rfl) ?_
            refine lv_iload_n hx hb dX5_packs_81 rfl (lv_at hl 2 rfl) ?_
            refine lv_iconst (v := 1) hx hb dX5_packs_82 (by decide) ?_
            refine lv_iadd hx hb dX5_packs_83 ?_
            refine lv_topi (fun x_15 ex_15 => ?_)
            obtain rfl : x_15 = 5 := ex_15.trans (by decide)
            refine lv_iload_n hx hb dX5_packs_84 rfl (lv_at hl 3 rfl) ?_
            refine lv_iload hx hb dX5_packs_85 (lv_at hl 6 rfl) ?_
            refine lv_iconst (v := 1) hx hb dX5_packs_87 (by decide) ?_
            refine lv_iadd hx hb dX5_packs_88 ?_
            refine lv_topi (fun x_16 ex_16 => ?_)
            have zx_16 : x_16.toInt = L27l6.toInt + 1 := by rw [ex_16]; exact z_add rfl rfl (by omega) (by omega)
            obtain ⟨hPc, hDc, hFc⟩ := sub3 hP hD hS hA (ws' := []) [] (by decide +kernel) rfl
            refine va_calli (va_runS (As := [.int p2, .int x_16]) (rest := [.int 5, .ref tn, .ref ob]) ⟨hx, hb, hml, hown, hts⟩ (c_J9_max_7cf53 l D k p2 x_16 H.size) (va_cwS 2 hts (gS tw_5_84 tw_4_11 tw_1_14 tw_4_12) rfl rfl rfl hdS_J9_max_7cf53 ⟨Nat.le_of_ble_eq_true rfl, Nat.le_of_ble_eq_true rfl⟩) (cz_S hK hPc hDc hN [.int p2, .int x_16]) rfl rfl hl.1 rfl (lv_room (Nat.le_of_ble_eq_true rfl)) dX5_packs_89 ⟨Nat.le_of_ble_eq_true rfl, Nat.le_of_ble_eq_true rfl⟩) hS (fun q _ h => hFc q h) hFc (fun r_17 uZ tZ H1 locs ht hvm hw hB hz1 hk1 hS => ?_)
            obtain ⟨hP1, hK1, hD1⟩ := hB
            rw [ht] at hP1
            obtain ⟨hP, hD⟩ := va_join (wr := [(ob, .inr (5, [.ref ob_0, .ref ob_1])), (ob_0, .inl (k 0, 6, .inl g_13)), (ob_1, .inl (k 0, 6, .inl g_14)), (tn, .inr (10, [.int tnv0, .int tnv1, .int tnv2, .ref tn_3, .ref tn_4, .ref tn_5, .ref tn_6, .int tnv7, .int tnv8, .ref tn_9, .ref tn_10, .int tnv11, .ref tn_12, .ref tn_13, .ref tn_14, .ref tn_15, .int tnv16, .ref tn_17, .ref tn_18, .ref tnt])), (tn_15, .inl (k 0, 6, .inl tng15))]) (w1 := []) hP hD [] [0, 1, 2, 3, 4] rfl rfl (by decide +kernel) (by decide +kernel) hk1 hFc hP1 hD1
            clear hK1 hP1 hD1 hPc hDc hFc
            clear hk1 hz1 ht hvm
            have hP : va_P D vwCl [(ob, .inr (5, [.ref ob_0, .ref ob_1])), (ob_0, .inl (k 0, 6, .inl g_13)), (ob_1, .inl (k 0, 6, .inl g_14)), (tn, .inr (10, [.int tnv0, .int tnv1, .int tnv2, .ref tn_3, .ref tn_4, .ref tn_5, .ref tn_6, .int tnv7, .int tnv8, .ref tn_9, .ref tn_10, .int tnv11, .ref tn_12, .ref tn_13, .ref tn_14, .ref tn_15, .int tnv16, .ref tn_17, .ref tn_18, .ref tnt])), (tn_15, .inl (k 0, 6, .inl tng15))] H1 := hP
            have hD : va_D A [(ob, .inr (5, [.ref ob_0, .ref ob_1])), (ob_0, .inl (k 0, 6, .inl g_13)), (ob_1, .inl (k 0, 6, .inl g_14)), (tn, .inr (10, [.int tnv0, .int tnv1, .int tnv2, .ref tn_3, .ref tn_4, .ref tn_5, .ref tn_6, .int tnv7, .int tnv8, .ref tn_9, .ref tn_10, .int tnv11, .ref tn_12, .ref tn_13, .ref tn_14, .ref tn_15, .int tnv16, .ref tn_17, .ref tn_18, .ref tnt])), (tn_15, .inl (k 0, 6, .inl tng15))] := hD
            generalize H1 = H at hP hS ⊢
            have hw_18 : (p2.toInt ≤ r_17.toInt ∧ x_16.toInt ≤ r_17.toInt ∧ (r_17.toInt = p2.toInt ∨ r_17.toInt = x_16.toInt)) := hw
            have hw_19 := hw_18
            clear hw
            refine lv_iload hx hb dX5_packs_92 (lv_at hl 4 rfl) ?_
            obtain ⟨hPc, hDc, hFc⟩ := sub3 hP hD hS hA (ws' := [(ob, .inr (5, [.ref ob_0, .ref ob_1])), (ob_0, .inl (k 0, 6, .inl g_13)), (ob_1, .inl (k 0, 6, .inl g_14)), (tn, .inr (10, [.int tnv0, .int tnv1, .int tnv2, .ref tn_3, .ref tn_4, .ref tn_5, .ref tn_6, .int tnv7, .int tnv8, .ref tn_9, .ref tn_10, .int tnv11, .ref tn_12, .ref tn_13, .ref tn_14, .ref tn_15, .int tnv16, .ref tn_17, .ref tn_18, .ref tnt])), (tn_15, .inl (k 0, 6, .inl tng15))]) [0, 1, 2, 3, 4] (by decide +kernel) rfl
            refine va_calli (va_runV (C := RX5) (As := [.ref tn, .int 5, .int r_17, .int p3]) (rest := []) ⟨hx, hb, hml, hown, hts⟩ (c_X5_packs_1 l D k ob tn r_17 p3 ob_0 ob_1 g_13 g_14 tnv0 tnv1 tnv2 tn_3 tn_4 tn_5 tn_6 tnv7 tnv8 tn_9 tn_10 tnv11 tn_12 tn_13 tn_14 tn_15 tnv16 tn_17 tn_18 tnt tng15 H.size (show 0 ≤ tnv0.toInt ∧ tnv0.toInt ≤ 8 from by omega) (show 0 ≤ tnv2.toInt ∧ tnv2.toInt ≤ 10 from by omega) (show 0 ≤ tnv8.toInt ∧ tnv8.toInt ≤ 4 from by omega) (show 0 ≤ tnv11.toInt ∧ tnv11.toInt ≤ 6 from by omega) (show 0 ≤ tnv16.toInt ∧ tnv16.toInt ≤ 2 from by omega)) (cwV 4 hts (gV tw_5_80 tw_5_82 tw_p_31 tw_1_11 tw_5_83) rfl rfl rfl hdV_X5_packs ⟨Nat.le_of_ble_eq_true rfl, Nat.le_of_ble_eq_true rfl⟩) (cz_V hK hPc hDc hN (ci := 5) (q0 := 0) rfl rfl [.ref tn, .int 5, .int r_17, .int p3]) rfl rfl hl.1 rfl (lv_room (Nat.le_of_ble_eq_true rfl)) dX5_packs_94 ⟨Nat.le_of_ble_eq_true rfl, Nat.le_of_ble_eq_true rfl⟩) hS (fun q _ h => hFc q h) hFc (fun r_20 uZ tZ H1 locs ht hvm hw hB hz1 hk1 hS => ?_)
            obtain ⟨o_21, o_22⟩ := uZ
            obtain ⟨hP1, hK1, hD1⟩ := hB
            rw [ht] at hP1
            obtain ⟨hP, hD⟩ := va_join (wr := []) (w1 := [(ob, .inr (5, [.ref ob_0, .ref ob_1])), (ob_0, .inl (k 0, 6, .inl o_21)), (ob_1, .inl (k 0, 6, .inl o_22)), (tn, .inr (10, [.int tnv0, .int tnv1, .int tnv2, .ref tn_3, .ref tn_4, .ref tn_5, .ref tn_6, .int tnv7, .int tnv8, .ref tn_9, .ref tn_10, .int tnv11, .ref tn_12, .ref tn_13, .ref tn_14, .ref tn_15, .int tnv16, .ref tn_17, .ref tn_18, .ref tnt])), (tn_15, .inl (k 0, 6, .inl tng15))]) hP hD [0, 1, 2, 3, 4] [] rfl rfl (by decide +kernel) (by decide +kernel) hk1 hFc hP1 hD1
            clear hK1 hP1 hD1 hPc hDc hFc
            clear hk1 hz1 ht hvm
            have hP : va_P D vwCl [(ob, .inr (5, [.ref ob_0, .ref ob_1])), (ob_0, .inl (k 0, 6, .inl o_21)), (ob_1, .inl (k 0, 6, .inl o_22)), (tn, .inr (10, [.int tnv0, .int tnv1, .int tnv2, .ref tn_3, .ref tn_4, .ref tn_5, .ref tn_6, .int tnv7, .int tnv8, .ref tn_9, .ref tn_10, .int tnv11, .ref tn_12, .ref tn_13, .ref tn_14, .ref tn_15, .int tnv16, .ref tn_17, .ref tn_18, .ref tnt])), (tn_15, .inl (k 0, 6, .inl tng15))] H1 := hP
            have hD : va_D A [(ob, .inr (5, [.ref ob_0, .ref ob_1])), (ob_0, .inl (k 0, 6, .inl o_21)), (ob_1, .inl (k 0, 6, .inl o_22)), (tn, .inr (10, [.int tnv0, .int tnv1, .int tnv2, .ref tn_3, .ref tn_4, .ref tn_5, .ref tn_6, .int tnv7, .int tnv8, .ref tn_9, .ref tn_10, .int tnv11, .ref tn_12, .ref tn_13, .ref tn_14, .ref tn_15, .int tnv16, .ref tn_17, .ref tn_18, .ref tnt])), (tn_15, .inl (k 0, 6, .inl tng15))] := hD
            generalize H1 = H at hP hS ⊢
            have hw_23 : (0 ≤ r_20.toInt ∧ r_20.toInt ≤ 1) := hw
            have hw_24 := hw_23
            clear hw
            refine lv_if_eq (tgt := 102) hx hb dX5_packs_97 (by decide) (fun h_25 => ?_) (fun h_25 => ?_)
            · skip
              have zh_25 : r_20.toInt = 0 := z_eq h_25
              refine lv_aload_n hx hb dX5_packs_102 rfl (lv_at hl 0 rfl) ?_
              refine va_get (D := D) (ci := 5) (v := .ref ob_0) (C := RX5) (T := TX5) (N := 2) hx hb hts iT_X5 hown hK hP 0 rfl rfl 0 (by decide) (hts _ tw_2_148) (fun _ h9 => h9) rfl dX5_packs_103 ?_
              refine lv_iload hx hb dX5_packs_106 (lv_at hl 6 rfl) ?_
              refine lv_dup2_11 hx hb dX5_packs_108 rfl rfl ?_
              refine va_iald hx hb hK hP 1 0 rfl rfl (z_in (by omega) (by omega)) dX5_packs_109 ?_
              refine lv_topi (fun x_26 ex_26 => ?_)
              refine lv_iload hx hb dX5_packs_110 (lv_at hl 5 rfl) ?_
              refine lv_iadd hx hb dX5_packs_112 ?_
              refine lv_topi (fun x_27 ex_27 => ?_)
              have zrx_26 := z_rng x_26
              refine va_iast hx hb hK hP hD hS 1 0 rfl rfl (z_in (by omega) (by omega)) dX5_packs_113 (fun H locs hP hD hS => ?_)
              obtain ⟨g_28, eg_28⟩ : ∃ z : Nat → Int32, upd o_21 L27l6.toNatClampNeg x_27 = z := ⟨_, rfl⟩
              have hP : va_P D vwCl [(ob, .inr (5, [.ref ob_0, .ref ob_1])), (ob_0, .inl (k 0, 6, .inl (upd o_21 L27l6.toNatClampNeg x_27))), (ob_1, .inl (k 0, 6, .inl o_22)), (tn, .inr (10, [.int tnv0, .int tnv1, .int tnv2, .ref tn_3, .ref tn_4, .ref tn_5, .ref tn_6, .int tnv7, .int tnv8, .ref tn_9, .ref tn_10, .int tnv11, .ref tn_12, .ref tn_13, .ref tn_14, .ref tn_15, .int tnv16, .ref tn_17, .ref tn_18, .ref tnt])), (tn_15, .inl (k 0, 6, .inl tng15))] H := hP
              have hD : va_D A [(ob, .inr (5, [.ref ob_0, .ref ob_1])), (ob_0, .inl (k 0, 6, .inl (upd o_21 L27l6.toNatClampNeg x_27))), (ob_1, .inl (k 0, 6, .inl o_22)), (tn, .inr (10, [.int tnv0, .int tnv1, .int tnv2, .ref tn_3, .ref tn_4, .ref tn_5, .ref tn_6, .int tnv7, .int tnv8, .ref tn_9, .ref tn_10, .int tnv11, .ref tn_12, .ref tn_13, .ref tn_14, .ref tn_15, .int tnv16, .ref tn_17, .ref tn_18, .ref tnt])), (tn_15, .inl (k 0, 6, .inl tng15))] := hD
              rw [eg_28] at hP hD
              obtain ⟨x_29, ex_29⟩ : ∃ y : Int32, y = L27l6 + 1 := ⟨_, rfl⟩
              have zx_29 : x_29.toInt = L27l6.toInt + 1 := by rw [ex_29]; exact z_add rfl rfl (by omega) (by omega)
              refine lv_iinc (v := x_29) (lv' := [(6, .int x_29), (0, .ref ob), (1, .ref tn), (2, .int 4), (3, .int p2), (4, .int p3), (5, .int x_2)]) hx hb dX5_packs_114 hl (k := 6) rfl (by rw [ex_29]; rfl) (by decide) rfl (fun ls hl => ?_)
              refine lv_goto (tgt := 27) hx hb dX5_packs_117 (by decide) ?_
              exact ih_3 _ _ _ _ (by omega) ⟨x_29, g_28, o_22, rfl, (show 0 ≤ x_29.toInt ∧ x_29.toInt ≤ 6 from by omega), hP.sub (ws' := [(ob, .inr (5, [.ref ob_0, .ref ob_1])), (ob_0, .inl (k 0, 6, .inl g_28)), (ob_1, .inl (k 0, 6, .inl o_22)), (tn, .inr (10, [.int tnv0, .int tnv1, .int tnv2, .ref tn_3, .ref tn_4, .ref tn_5, .ref tn_6, .int tnv7, .int tnv8, .ref tn_9, .ref tn_10, .int tnv11, .ref tn_12, .ref tn_13, .ref tn_14, .ref tn_15, .int tnv16, .ref tn_17, .ref tn_18, .ref tnt])), (tn_15, .inl (k 0, 6, .inl tng15))]) [0, 1, 2, 3, 4] rfl, hD.sub (ws' := [(ob, .inr (5, [.ref ob_0, .ref ob_1])), (ob_0, .inl (k 0, 6, .inl g_28)), (ob_1, .inl (k 0, 6, .inl o_22)), (tn, .inr (10, [.int tnv0, .int tnv1, .int tnv2, .ref tn_3, .ref tn_4, .ref tn_5, .ref tn_6, .int tnv7, .int tnv8, .ref tn_9, .ref tn_10, .int tnv11, .ref tn_12, .ref tn_13, .ref tn_14, .ref tn_15, .int tnv16, .ref tn_17, .ref tn_18, .ref tnt])), (tn_15, .inl (k 0, 6, .inl tng15))]) [0, 1, 2, 3, 4] (by decide +kernel) rfl, hS, lv_sub hl [1, 2, 3, 4, 5, 6, 0] rfl⟩
            · skip
              have zh_25 : ¬ r_20.toInt = 0 := z_ne h_25
              refine lv_iconst (v := 1) hx hb dX5_packs_100 (by decide) ?_
              obtain ⟨hP9, hD9⟩ := sub2 hP hD (ws' := [(ob, .inr (5, [.ref ob_0, .ref ob_1])), (ob_0, .inl (k 0, 6, .inl o_21)), (ob_1, .inl (k 0, 6, .inl o_22)), (tn, .inr (10, [.int tnv0, .int tnv1, .int tnv2, .ref tn_3, .ref tn_4, .ref tn_5, .ref tn_6, .int tnv7, .int tnv8, .ref tn_9, .ref tn_10, .int tnv11, .ref tn_12, .ref tn_13, .ref tn_14, .ref tn_15, .int tnv16, .ref tn_17, .ref tn_18, .ref tnt])), (tn_15, .inl (k 0, 6, .inl tng15))]) [0, 1, 2, 3, 4] (by decide +kernel) rfl
              exact W.zret (v := 1) hx hb hr (by decide) (fun tZ ht hW => ⟨⟨1, (o_21, o_22), rfl, (show 0 ≤ 1 ∧ 1 ≤ 1 from by omega), by rw [ht]; exact hP9, va_K.moved hW.alike hK, hD9⟩, hS.F ht⟩) hS.2.2 dX5_packs_101
set_option maxHeartbeats 4000000 in
set_option maxRecDepth 100000 in
theorem c_X5_packs_3 (l : Launch) (D : va_G) (k : Nat → ClassId) (ob : Nat) (tn : Nat) (p2 : Int32) (p3 : Int32) (ob_0 : Nat) (ob_1 : Nat) (obg0 : Nat → Int32) (obg1 : Nat → Int32) (tnv0 : Int32) (tnv1 : Int32) (tnv2 : Int32) (tn_3 : Nat) (tn_4 : Nat) (tn_5 : Nat) (tn_6 : Nat) (tnv7 : Int32) (tnv8 : Int32) (tn_9 : Nat) (tn_10 : Nat) (tnv11 : Int32) (tn_12 : Nat) (tn_13 : Nat) (tn_14 : Nat) (tn_15 : Nat) (tnv16 : Int32) (tn_17 : Nat) (tn_18 : Nat) (tnt : Nat) (tng15 : Nat → Int32) (sz : Nat) (h_tnv0 : 0 ≤ tnv0.toInt ∧ tnv0.toInt ≤ 8) (h_tnv2 : 0 ≤ tnv2.toInt ∧ tnv2.toInt ≤ 10) (h_tnv8 : 0 ≤ tnv8.toInt ∧ tnv8.toInt ≤ 4) (h_tnv11 : 0 ≤ tnv11.toInt ∧ tnv11.toInt ≤ 6) (h_tnv16 : 0 ≤ tnv16.toInt ∧ tnv16.toInt ≤ 2) : Met l yX5_packs (ww yX5_packs cX5_packs 7 (some .boolean)) ({ frames := 3, cells := 0, slots := 0, locals := 78 }) (Pre0 D k [(ob, .inr (5, [.ref ob_0, .ref ob_1])), (ob_0, .inl (k 0, 6, .inl obg0)), (ob_1, .inl (k 0, 6, .inl obg1)), (tn, .inr (10, [.int tnv0, .int tnv1, .int tnv2, .ref tn_3, .ref tn_4, .ref tn_5, .ref tn_6, .int tnv7, .int tnv8, .ref tn_9, .ref tn_10, .int tnv11, .ref tn_12, .ref tn_13, .ref tn_14, .ref tn_15, .int tnv16, .ref tn_17, .ref tn_18, .ref tnt])), (tn_15, .inl (k 0, 6, .inl tng15))] sz [.ref ob, .ref tn, .int 3, .int p2, .int p3]) (va_Qi (fun (r : Int32) (u : (Nat → Int32) × (Nat → Int32)) => match u with | (obg0z, obg1z) => (0 ≤ r.toInt ∧ r.toInt ≤ 1)) (fun (u : (Nat → Int32) × (Nat → Int32)) tZ => match u with | (obg0z, obg1z) => Bw D k (va_A [(ob, .inr (5, [.ref ob_0, .ref ob_1])), (ob_0, .inl (k 0, 6, .inl obg0)), (ob_1, .inl (k 0, 6, .inl obg1)), (tn, .inr (10, [.int tnv0, .int tnv1, .int tnv2, .ref tn_3, .ref tn_4, .ref tn_5, .ref tn_6, .int tnv7, .int tnv8, .ref tn_9, .ref tn_10, .int tnv11, .ref tn_12, .ref tn_13, .ref tn_14, .ref tn_15, .int tnv16, .ref tn_17, .ref tn_18, .ref tnt])), (tn_15, .inl (k 0, 6, .inl tng15))] sz) [(ob, .inr (5, [.ref ob_0, .ref ob_1])), (ob_0, .inl (k 0, 6, .inl obg0z)), (ob_1, .inl (k 0, 6, .inl obg1z)), (tn, .inr (10, [.int tnv0, .int tnv1, .int tnv2, .ref tn_3, .ref tn_4, .ref tn_5, .ref tn_6, .int tnv7, .int tnv8, .ref tn_9, .ref tn_10, .int tnv11, .ref tn_12, .ref tn_13, .ref tn_14, .ref tn_15, .int tnv16, .ref tn_17, .ref tn_18, .ref tnt])), (tn_15, .inl (k 0, 6, .inl tng15))] tZ) (va_A [(ob, .inr (5, [.ref ob_0, .ref ob_1])), (ob_0, .inl (k 0, 6, .inl obg0)), (ob_1, .inl (k 0, 6, .inl obg1)), (tn, .inr (10, [.int tnv0, .int tnv1, .int tnv2, .ref tn_3, .ref tn_4, .ref tn_5, .ref tn_6, .int tnv7, .int tnv8, .ref tn_9, .ref tn_10, .int tnv11, .ref tn_12, .ref tn_13, .ref tn_14, .ref tn_15, .int tnv16, .ref tn_17, .ref tn_18, .ref tnt])), (tn_15, .inl (k 0, 6, .inl tng15))] sz)) 0 0 (va_A [(ob, .inr (5, [.ref ob_0, .ref ob_1])), (ob_0, .inl (k 0, 6, .inl obg0)), (ob_1, .inl (k 0, 6, .inl obg1)), (tn, .inr (10, [.int tnv0, .int tnv1, .int tnv2, .ref tn_3, .ref tn_4, .ref tn_5, .ref tn_6, .int tnv7, .int tnv8, .ref tn_9, .ref tn_10, .int tnv11, .ref tn_12, .ref tn_13, .ref tn_14, .ref tn_15, .int tnv16, .ref tn_17, .ref tn_18, .ref tnt])), (tn_15, .inl (k 0, 6, .inl tng15))] sz) := by
  refine Met.ofW (cc := cX5_packs) (maxL := 7) (ret := (some .boolean)) (by decide +kernel) rfl ?_
  intro p e s m args below meth c s₁ B hml hv
  obtain ⟨rfl, hsz, hP, hK, hD0, hN⟩ := hv
  have hx := B.exec
  have hb := B.bytes
  have hr := B.returns
  have hts : ∀ w ∈ TT, w.before _ s = true := fun w h => atoms_spec (ws := ww yX5_packs cX5_packs 7 (some .boolean)) B.pre w (List.mem_cons_of_mem _ h)
  have hown : s.vm.findClass RX5 = some m.cls := findClass_of_methodNamed B.named
  have hlocks := B.notSynchronized
  subst hsz
  have hD := hD0.self (sz := s.heap.size)
  generalize hAe : va_A [(ob, .inr (5, [.ref ob_0, .ref ob_1])), (ob_0, .inl (k 0, 6, .inl obg0)), (ob_1, .inl (k 0, 6, .inl obg1)), (tn, .inr (10, [.int tnv0, .int tnv1, .int tnv2, .ref tn_3, .ref tn_4, .ref tn_5, .ref tn_6, .int tnv7, .int tnv8, .ref tn_9, .ref tn_10, .int tnv11, .ref tn_12, .ref tn_13, .ref tn_14, .ref tn_15, .int tnv16, .ref tn_17, .ref tn_18, .ref tnt])), (tn_15, .inl (k 0, 6, .inl tng15))] s.heap.size = A at hD ⊢
  have hA : ∀ q : Nat, s.heap.size ≤ q → A q := fun q h => by rw [← hAe]; exact Or.inr h
  have hS : va_S A s.heap s.heap [] := va_S.rf
  have hl := lv_entry ([.ref ob, .ref tn, .int 3, .int p2, .int p3]) (n := 7) (Nat.le_of_ble_eq_true rfl)
  rw [lg_entry_eq]
  generalize (lg_sl ([.ref ob, .ref tn, .int 3, .int p2, .int p3]) ++ List.replicate (7 - (lg_sl ([.ref ob, .ref tn, .int 3, .int p2, .int p3])).length) Slot.unset).toArray = ls at hl ⊢
  have hl : lv_has ls 7 [(0, .ref ob), (1, .ref tn), (2, .int 3), (3, .int p2), (4, .int p3)] := hl
  refine lv_iload_n hx hb dX5_packs_0 rfl (lv_at hl 2 rfl) ?_
  refine lv_aload_n hx hb dX5_packs_1 rfl (lv_at hl 1 rfl) ?_
  refine va_get (D := D) (ci := 10) (v := .int tnv11) (C := RX10) (T := TX10) (N := 20) hx hb hts iT_X10 hown hK hP 3 rfl rfl 11 (by decide) (hts _ tw_1_120) (fun _ h9 => h9) rfl dX5_packs_2 ?_
  refine lv_icmp_ge (tgt := 14) hx hb dX5_packs_5 (by decide) (fun h_1 => ?_) (fun h_1 => ?_)
  · skip
    have zh_1 : tnv11.toInt ≤ 3 := z_le h_1
    refine lv_iconst (v := 1) hx hb dX5_packs_14 (by decide) ?_
    obtain ⟨hP9, hD9⟩ := sub2 hP hD (ws' := [(ob, .inr (5, [.ref ob_0, .ref ob_1])), (ob_0, .inl (k 0, 6, .inl obg0)), (ob_1, .inl (k 0, 6, .inl obg1)), (tn, .inr (10, [.int tnv0, .int tnv1, .int tnv2, .ref tn_3, .ref tn_4, .ref tn_5, .ref tn_6, .int tnv7, .int tnv8, .ref tn_9, .ref tn_10, .int tnv11, .ref tn_12, .ref tn_13, .ref tn_14, .ref tn_15, .int tnv16, .ref tn_17, .ref tn_18, .ref tnt])), (tn_15, .inl (k 0, 6, .inl tng15))]) [0, 1, 2, 3, 4] (by decide +kernel) rfl
    exact W.zret (v := 1) hx hb hr (by decide) (fun tZ ht hW => ⟨⟨1, (obg0, obg1), rfl, (show 0 ≤ 1 ∧ 1 ≤ 1 from by omega), by rw [ht]; exact hP9, va_K.moved hW.alike hK, hD9⟩, hS.F ht⟩) hS.2.2 dX5_packs_15
  · skip
    have zh_1 : 3 < tnv11.toInt := z_nle h_1
    refine lv_iload_n hx hb dX5_packs_8 rfl (lv_at hl 2 rfl) ?_
    refine lv_bipush (v := 6) hx hb dX5_packs_9 (by decide) ?_
    refine lv_icmp_lt (tgt := 16) hx hb dX5_packs_11 (by decide) (fun _ => ?_) (fun c9 => absurd c9 (by decide))
    refine lv_aload_n hx hb dX5_packs_16 rfl (lv_at hl 1 rfl) ?_
    refine va_get (D := D) (ci := 10) (v := .ref tn_15) (C := RX10) (T := TX10) (N := 20) hx hb hts iT_X10 hown hK hP 3 rfl rfl 15 (by decide) (hts _ tw_1_139) (fun _ h9 => h9) rfl dX5_packs_17 ?_
    refine lv_iload_n hx hb dX5_packs_20 rfl (lv_at hl 2 rfl) ?_
    refine va_iald hx hb hK hP 4 0 rfl rfl (z_in (by decide) (by decide)) dX5_packs_21 ?_
    refine lv_topi (fun x_2 ex_2 => ?_)
    refine lv_istore (lv' := [(5, .int x_2), (0, .ref ob), (1, .ref tn), (2, .int 3), (3, .int p2), (4, .int p3)]) hx hb dX5_packs_22 hl (by decide) rfl (fun ls hl => ?_)
    refine lv_iconst (v := 0) hx hb dX5_packs_24 (by decide) ?_
    refine lv_istore (lv' := [(6, .int 0), (5, .int x_2), (0, .ref ob), (1, .ref tn), (2, .int 3), (3, .int p2), (4, .int p3)]) hx hb dX5_packs_25 hl (by decide) rfl (fun ls hl => ?_)
    refine loop_r (Wg := fun H locs ls => W p l e _ s m _ below meth c H locs _ _ _ (F0 m 27 ls [])) (fun n9 H locs ls => ∃ (L27l6 : Int32) (L27a1 : Nat → Int32) (L27a2 : Nat → Int32), n9 = (6 - L27l6.toInt).toNat ∧ (0 ≤ L27l6.toInt ∧ L27l6.toInt ≤ 6) ∧ va_P D vwCl [(ob, .inr (5, [.ref ob_0, .ref ob_1])), (ob_0, .inl (k 0, 6, .inl L27a1)), (ob_1, .inl (k 0, 6, .inl L27a2)), (tn, .inr (10, [.int tnv0, .int tnv1, .int tnv2, .ref tn_3, .ref tn_4, .ref tn_5, .ref tn_6, .int tnv7, .int tnv8, .ref tn_9, .ref tn_10, .int tnv11, .ref tn_12, .ref tn_13, .ref tn_14, .ref tn_15, .int tnv16, .ref tn_17, .ref tn_18, .ref tnt])), (tn_15, .inl (k 0, 6, .inl tng15))] H ∧ va_D A [(ob, .inr (5, [.ref ob_0, .ref ob_1])), (ob_0, .inl (k 0, 6, .inl L27a1)), (ob_1, .inl (k 0, 6, .inl L27a2)), (tn, .inr (10, [.int tnv0, .int tnv1, .int tnv2, .ref tn_3, .ref tn_4, .ref tn_5, .ref tn_6, .int tnv7, .int tnv8, .ref tn_9, .ref tn_10, .int tnv11, .ref tn_12, .ref tn_13, .ref tn_14, .ref tn_15, .int tnv16, .ref tn_17, .ref tn_18, .ref tnt])), (tn_15, .inl (k 0, 6, .inl tng15))] ∧ va_S A s.heap H locs ∧ lv_has ls 7 [(0, .ref ob), (1, .ref tn), (2, .int 3), (3, .int p2), (4, .int p3), (5, .int x_2), (6, .int L27l6)]) (fun n9 H locs ls hI ih_3 => ?_) _ _ _ _ ⟨0, obg0, obg1, rfl, (show 0 ≤ 0 ∧ 0 ≤ 6 from by omega), hP.sub (ws' := [(ob, .inr (5, [.ref ob_0, .ref ob_1])), (ob_0, .inl (k 0, 6, .inl obg0)), (ob_1, .inl (k 0, 6, .inl obg1)), (tn, .inr (10, [.int tnv0, .int tnv1, .int tnv2, .ref tn_3, .ref tn_4, .ref tn_5, .ref tn_6, .int tnv7, .int tnv8, .ref tn_9, .ref tn_10, .int tnv11, .ref tn_12, .ref tn_13, .ref tn_14, .ref tn_15, .int tnv16, .ref tn_17, .ref tn_18, .ref tnt])), (tn_15, .inl (k 0, 6, .inl tng15))]) [0, 1, 2, 3, 4] rfl, hD.sub (ws' := [(ob, .inr (5, [.ref ob_0, .ref ob_1])), (ob_0, .inl (k 0, 6, .inl obg0)), (ob_1, .inl (k 0, 6, .inl obg1)), (tn, .inr (10, [.int tnv0, .int tnv1, .int tnv2, .ref tn_3, .ref tn_4, .ref tn_5, .ref tn_6, .int tnv7, .int tnv8, .ref tn_9, .ref tn_10, .int tnv11, .ref tn_12, .ref tn_13, .ref tn_14, .ref tn_15, .int tnv16, .ref tn_17, .ref tn_18, .ref tnt])), (tn_15, .inl (k 0, 6, .inl tng15))]) [0, 1, 2, 3, 4] (by decide +kernel) rfl, hS, lv_sub hl [2, 3, 4, 5, 6, 1, 0] rfl⟩
    clear hP hD hS hl
    obtain ⟨L27l6, L27a1, L27a2, en_4, zL27l6, hP, hD, hS, hl⟩ := hI
    refine lv_iload hx hb dX5_packs_27 (lv_at hl 6 rfl) ?_
    refine lv_iload_n hx hb dX5_packs_29 rfl (lv_at hl 3 rfl) ?_
    refine lv_icmp_gt (tgt := 120) hx hb dX5_packs_30 (by decide) (fun h_5 => ?_) (fun h_5 => ?_)
    · skip
      have zh_5 : p2.toInt < L27l6.toInt := z_lt h_5
      refine lv_iconst (v := 0) hx hb dX5_packs_120 (by decide) ?_
      obtain ⟨hP9, hD9⟩ := sub2 hP hD (ws' := [(ob, .inr (5, [.ref ob_0, .ref ob_1])), (ob_0, .inl (k 0, 6, .inl L27a1)), (ob_1, .inl (k 0, 6, .inl L27a2)), (tn, .inr (10, [.int tnv0, .int tnv1, .int tnv2, .ref tn_3, .ref tn_4, .ref tn_5, .ref tn_6, .int tnv7, .int tnv8, .ref tn_9, .ref tn_10, .int tnv11, .ref tn_12, .ref tn_13, .ref tn_14, .ref tn_15, .int tnv16, .ref tn_17, .ref tn_18, .ref tnt])), (tn_15, .inl (k 0, 6, .inl tng15))]) [0, 1, 2, 3, 4] (by decide +kernel) rfl
      exact W.zret (v := 0) hx hb hr (by decide) (fun tZ ht hW => ⟨⟨0, (L27a1, L27a2), rfl, (show 0 ≤ 0 ∧ 0 ≤ 1 from by omega), by rw [ht]; exact hP9, va_K.moved hW.alike hK, hD9⟩, hS.F ht⟩) hS.2.2 dX5_packs_121
    · skip
      have zh_5 : L27l6.toInt ≤ p2.toInt := z_nlt h_5
      refine lv_iload hx hb dX5_packs_33 (lv_at hl 6 rfl) ?_
      refine lv_iload hx hb dX5_packs_35 (lv_at hl 4 rfl) ?_
      refine lv_icmp_ge (tgt := 120) hx hb dX5_packs_37 (by decide) (fun h_6 => ?_) (fun h_6 => ?_)
      · skip
        have zh_6 : p3.toInt ≤ L27l6.toInt := z_le h_6
        refine lv_iconst (v := 0) hx hb dX5_packs_120 (by decide) ?_
        obtain ⟨hP9, hD9⟩ := sub2 hP hD (ws' := [(ob, .inr (5, [.ref ob_0, .ref ob_1])), (ob_0, .inl (k 0, 6, .inl L27a1)), (ob_1, .inl (k 0, 6, .inl L27a2)), (tn, .inr (10, [.int tnv0, .int tnv1, .int tnv2, .ref tn_3, .ref tn_4, .ref tn_5, .ref tn_6, .int tnv7, .int tnv8, .ref tn_9, .ref tn_10, .int tnv11, .ref tn_12, .ref tn_13, .ref tn_14, .ref tn_15, .int tnv16, .ref tn_17, .ref tn_18, .ref tnt])), (tn_15, .inl (k 0, 6, .inl tng15))]) [0, 1, 2, 3, 4] (by decide +kernel) rfl
        exact W.zret (v := 0) hx hb hr (by decide) (fun tZ ht hW => ⟨⟨0, (L27a1, L27a2), rfl, (show 0 ≤ 0 ∧ 0 ≤ 1 from by omega), by rw [ht]; exact hP9, va_K.moved hW.alike hK, hD9⟩, hS.F ht⟩) hS.2.2 dX5_packs_121
      · skip
        have zh_6 : L27l6.toInt < p3.toInt := z_nle h_6
        refine lv_iload hx hb dX5_packs_40 (lv_at hl 6 rfl) ?_
        refine lv_bipush (v := 6) hx hb dX5_packs_42 (by decide) ?_
        refine lv_icmp_ge (tgt := 120) hx hb dX5_packs_44 (by decide) (fun h_7 => ?_) (fun h_7 => ?_)
        · skip
          have zh_7 : 6 ≤ L27l6.toInt := z_le h_7
          refine lv_iconst (v := 0) hx hb dX5_packs_120 (by decide) ?_
          obtain ⟨hP9, hD9⟩ := sub2 hP hD (ws' := [(ob, .inr (5, [.ref ob_0, .ref ob_1])), (ob_0, .inl (k 0, 6, .inl L27a1)), (ob_1, .inl (k 0, 6, .inl L27a2)), (tn, .inr (10, [.int tnv0, .int tnv1, .int tnv2, .ref tn_3, .ref tn_4, .ref tn_5, .ref tn_6, .int tnv7, .int tnv8, .ref tn_9, .ref tn_10, .int tnv11, .ref tn_12, .ref tn_13, .ref tn_14, .ref tn_15, .int tnv16, .ref tn_17, .ref tn_18, .ref tnt])), (tn_15, .inl (k 0, 6, .inl tng15))]) [0, 1, 2, 3, 4] (by decide +kernel) rfl
          exact W.zret (v := 0) hx hb hr (by decide) (fun tZ ht hW => ⟨⟨0, (L27a1, L27a2), rfl, (show 0 ≤ 0 ∧ 0 ≤ 1 from by omega), by rw [ht]; exact hP9, va_K.moved hW.alike hK, hD9⟩, hS.F ht⟩) hS.2.2 dX5_packs_121
        · skip
          have zh_7 : L27l6.toInt < 6 := z_nle h_7
          refine lv_aload_n hx hb dX5_packs_47 rfl (lv_at hl 0 rfl) ?_
          refine va_get (D := D) (ci := 5) (v := .ref ob_0) (C := RX5) (T := TX5) (N := 2) hx hb hts iT_X5 hown hK hP 0 rfl rfl 0 (by decide) (hts _ tw_2_148) (fun _ h9 => h9) rfl dX5_packs_48 ?_
          refine lv_iload hx hb dX5_packs_51 (lv_at hl 6 rfl) ?_
          refine va_iald hx hb hK hP 1 0 rfl rfl (z_in (by omega) (by omega)) dX5_packs_53 ?_
          refine lv_topi (fun x_8 ex_8 => ?_)
          refine lv_iload hx hb dX5_packs_54 (lv_at hl 5 rfl) ?_
          refine lv_icmp_lt (tgt := 114) hx hb dX5_packs_56 (by decide) (fun h_9 => ?_) (fun h_9 => ?_)
          · skip
            have zh_9 : x_8.toInt < x_2.toInt := z_lt h_9
            obtain ⟨x_10, ex_10⟩ : ∃ y : Int32, y = L27l6 + 1 := ⟨_, rfl⟩
            have zx_10 : x_10.toInt = L27l6.toInt + 1 := by rw [ex_10]; exact z_add rfl rfl (by omega) (by omega)
            refine lv_iinc (v := x_10) (lv' := [(6, .int x_10), (0, .ref ob), (1, .ref tn), (2, .int 3), (3, .int p2), (4, .int p3), (5, .int x_2)]) hx hb dX5_packs_114 hl (k := 6) rfl (by rw [ex_10]; rfl) (by decide) rfl (fun ls hl => ?_)
            refine lv_goto (tgt := 27) hx hb dX5_packs_117 (by decide) ?_
            exact ih_3 _ _ _ _ (by omega) ⟨x_10, L27a1, L27a2, rfl, (show 0 ≤ x_10.toInt ∧ x_10.toInt ≤ 6 from by omega), hP.sub (ws' := [(ob, .inr (5, [.ref ob_0, .ref ob_1])), (ob_0, .inl (k 0, 6, .inl L27a1)), (ob_1, .inl (k 0, 6, .inl L27a2)), (tn, .inr (10, [.int tnv0, .int tnv1, .int tnv2, .ref tn_3, .ref tn_4, .ref tn_5, .ref tn_6, .int tnv7, .int tnv8, .ref tn_9, .ref tn_10, .int tnv11, .ref tn_12, .ref tn_13, .ref tn_14, .ref tn_15, .int tnv16, .ref tn_17, .ref tn_18, .ref tnt])), (tn_15, .inl (k 0, 6, .inl tng15))]) [0, 1, 2, 3, 4] rfl, hD.sub (ws' := [(ob, .inr (5, [.ref ob_0, .ref ob_1])), (ob_0, .inl (k 0, 6, .inl L27a1)), (ob_1, .inl (k 0, 6, .inl L27a2)), (tn, .inr (10, [.int tnv0, .int tnv1, .int tnv2, .ref tn_3, .ref tn_4, .ref tn_5, .ref tn_6, .int tnv7, .int tnv8, .ref tn_9, .ref tn_10, .int tnv11, .ref tn_12, .ref tn_13, .ref tn_14, .ref tn_15, .int tnv16, .ref tn_17, .ref tn_18, .ref tnt])), (tn_15, .inl (k 0, 6, .inl tng15))]) [0, 1, 2, 3, 4] (by decide +kernel) rfl, hS, lv_sub hl [1, 2, 3, 4, 5, 6, 0] rfl⟩
          · skip
            have zh_9 : x_2.toInt ≤ x_8.toInt := z_nlt h_9
            refine lv_aload_n hx hb dX5_packs_59 rfl (lv_at hl 0 rfl) ?_
            refine va_get (D := D) (ci := 5) (v := .ref ob_0) (C := RX5) (T := TX5) (N := 2) hx hb hts iT_X5 hown hK hP 0 rfl rfl 0 (by decide) (hts _ tw_2_148) (fun _ h9 => h9) rfl dX5_packs_60 ?_
            refine lv_iload hx hb dX5_packs_63 (lv_at hl 6 rfl) ?_
            refine lv_dup2_11 hx hb dX5_packs_65 rfl rfl ?_
            refine va_iald hx hb hK hP 1 0 rfl rfl (z_in (by omega) (by omega)) dX5_packs_66 ?_
            refine lv_topi (fun x_11 ex_11 => ?_)
            obtain rfl : x_8 = x_11 := ex_8.trans ex_11.symm
            refine lv_iload hx hb dX5_packs_67 (lv_at hl 5 rfl) ?_
            refine lv_isub hx hb dX5_packs_69 ?_
            refine lv_topi (fun x_12 ex_12 => ?_)
            have zrx_8 := z_rng x_8
            have zrx_2 := z_rng x_2
            refine va_iast hx hb hK hP hD hS 1 0 rfl rfl (z_in (by omega) (by omega)) dX5_packs_70 (fun H locs hP hD hS => ?_)
            obtain ⟨g_13, eg_13⟩ : ∃ z : Nat → Int32, upd L27a1 L27l6.toNatClampNeg x_12 = z := ⟨_, rfl⟩
            have hP : va_P D vwCl [(ob, .inr (5, [.ref ob_0, .ref ob_1])), (ob_0, .inl (k 0, 6, .inl (upd L27a1 L27l6.toNatClampNeg x_12))), (ob_1, .inl (k 0, 6, .inl L27a2)), (tn, .inr (10, [.int tnv0, .int tnv1, .int tnv2, .ref tn_3, .ref tn_4, .ref tn_5, .ref tn_6, .int tnv7, .int tnv8, .ref tn_9, .ref tn_10, .int tnv11, .ref tn_12, .ref tn_13, .ref tn_14, .ref tn_15, .int tnv16, .ref tn_17, .ref tn_18, .ref tnt])), (tn_15, .inl (k 0, 6, .inl tng15))] H := hP
            have hD : va_D A [(ob, .inr (5, [.ref ob_0, .ref ob_1])), (ob_0, .inl (k 0, 6, .inl (upd L27a1 L27l6.toNatClampNeg x_12))), (ob_1, .inl (k 0, 6, .inl L27a2)), (tn, .inr (10, [.int tnv0, .int tnv1, .int tnv2, .ref tn_3, .ref tn_4, .ref tn_5, .ref tn_6, .int tnv7, .int tnv8, .ref tn_9, .ref tn_10, .int tnv11, .ref tn_12, .ref tn_13, .ref tn_14, .ref tn_15, .int tnv16, .ref tn_17, .ref tn_18, .ref tnt])), (tn_15, .inl (k 0, 6, .inl tng15))] := hD
            rw [eg_13] at hP hD
            refine lv_aload_n hx hb dX5_packs_71 rfl (lv_at hl 0 rfl) ?_
            refine va_get (D := D) (ci := 5) (v := .ref ob_1) (C := RX5) (T := TX5) (N := 2) hx hb hts iT_X5 hown hK hP 0 rfl rfl 1 (by decide) (hts _ tw_2_149) (fun _ h9 => h9) rfl dX5_packs_72 ?_
            refine lv_iload_n hx hb dX5_packs_75 rfl (lv_at hl 2 rfl) ?_
            refine lv_iload hx hb dX5_packs_76 (lv_at hl 6 rfl) ?_
            refine va_iast hx hb hK hP hD hS 2 0 rfl rfl (z_in (by decide) (by decide)) dX5_packs_78 (fun H locs hP hD hS => ?_)
            obtain ⟨g_14, eg_14⟩ : ∃ z : Nat → Int32, upd L27a2 3 L27l6 = z := ⟨_, rfl⟩
            have hP : va_P D vwCl [(ob, .inr (5, [.ref ob_0, .ref ob_1])), (ob_0, .inl (k 0, 6, .inl g_13)), (ob_1, .inl (k 0, 6, .inl (upd L27a2 3 L27l6))), (tn, .inr (10, [.int tnv0, .int tnv1, .int tnv2, .ref tn_3, .ref tn_4, .ref tn_5, .ref tn_6, .int tnv7, .int tnv8, .ref tn_9, .ref tn_10, .int tnv11, .ref tn_12, .ref tn_13, .ref tn_14, .ref tn_15, .int tnv16, .ref tn_17, .ref tn_18, .ref tnt])), (tn_15, .inl (k 0, 6, .inl tng15))] H := hP
            have hD : va_D A [(ob, .inr (5, [.ref ob_0, .ref ob_1])), (ob_0, .inl (k 0, 6, .inl g_13)), (ob_1, .inl (k 0, 6, .inl (upd L27a2 3 L27l6))), (tn, .inr (10, [.int tnv0, .int tnv1, .int tnv2, .ref tn_3, .ref tn_4, .ref tn_5, .ref tn_6, .int tnv7, .int tnv8, .ref tn_9, .ref tn_10, .int tnv11, .ref tn_12, .ref tn_13, .ref tn_14, .ref tn_15, .int tnv16, .ref tn_17, .ref tn_18, .ref tnt])), (tn_15, .inl (k 0, 6, .inl tng15))] := hD
            rw [eg_14] at hP hD
            refine lv_aload_n hx hb dX5_packs_79 rfl (lv_at hl 0 rfl) ?_
            refine lv_aload_n hx hb dX5_packs_80 rfl (lv_at hl 1 rfl) ?_
            refine lv_iload_n hx hb dX5_packs_81 rfl (lv_at hl 2 rfl) ?_
            refine lv_iconst (v := 1) hx hb dX5_packs_82 (by decide) ?_
            refine lv_iadd hx hb dX5_packs_83 ?_
            refine lv_topi (fun x_15 ex_15 => ?_)
            obtain rfl : x_15 = 4 := ex_15.trans (by decide)
            refine lv_iload_n hx hb dX5_packs_84 rfl (lv_at hl 3 rfl) ?_
            refine lv_iload hx hb dX5_packs_85 (lv_at hl 6 rfl) ?_
            refine lv_iconst (v := 1) hx hb dX5_packs_87 (by decide) ?_
            refine lv_iadd hx hb dX5_packs_88 ?_
            refine lv_topi (fun x_16 ex_16 => ?_)
            have zx_16 : x_16.toInt = L27l6.toInt + 1 := by rw [ex_16]; exact z_add rfl rfl (by omega) (by omega)
            obtain ⟨hPc, hDc, hFc⟩ := sub3 hP hD hS hA (ws' := []) [] (by decide +kernel) rfl
            refine va_calli (va_runS (As := [.int p2, .int x_16]) (rest := [.int 4, .ref tn, .ref ob]) ⟨hx, hb, hml, hown, hts⟩ (c_J9_max_7cf53 l D k p2 x_16 H.size) (va_cwS 2 hts (gS tw_5_84 tw_4_11 tw_1_14 tw_4_12) rfl rfl rfl hdS_J9_max_7cf53 ⟨Nat.le_of_ble_eq_true rfl, Nat.le_of_ble_eq_true rfl⟩) (cz_S hK hPc hDc hN [.int p2, .int x_16]) rfl rfl hl.1 rfl (lv_room (Nat.le_of_ble_eq_true rfl)) dX5_packs_89 ⟨Nat.le_of_ble_eq_true rfl, Nat.le_of_ble_eq_true rfl⟩) hS (fun q _ h => hFc q h) hFc (fun r_17 uZ tZ H1 locs ht hvm hw hB hz1 hk1 hS => ?_)
            obtain ⟨hP1, hK1, hD1⟩ := hB
            rw [ht] at hP1
            obtain ⟨hP, hD⟩ := va_join (wr := [(ob, .inr (5, [.ref ob_0, .ref ob_1])), (ob_0, .inl (k 0, 6, .inl g_13)), (ob_1, .inl (k 0, 6, .inl g_14)), (tn, .inr (10, [.int tnv0, .int tnv1, .int tnv2, .ref tn_3, .ref tn_4, .ref tn_5, .ref tn_6, .int tnv7, .int tnv8, .ref tn_9, .ref tn_10, .int tnv11, .ref tn_12, .ref tn_13, .ref tn_14, .ref tn_15, .int tnv16, .ref tn_17, .ref tn_18, .ref tnt])), (tn_15, .inl (k 0, 6, .inl tng15))]) (w1 := []) hP hD [] [0, 1, 2, 3, 4] rfl rfl (by decide +kernel) (by decide +kernel) hk1 hFc hP1 hD1
            clear hK1 hP1 hD1 hPc hDc hFc
            clear hk1 hz1 ht hvm
            have hP : va_P D vwCl [(ob, .inr (5, [.ref ob_0, .ref ob_1])), (ob_0, .inl (k 0, 6, .inl g_13)), (ob_1, .inl (k 0, 6, .inl g_14)), (tn, .inr (10, [.int tnv0, .int tnv1, .int tnv2, .ref tn_3, .ref tn_4, .ref tn_5, .ref tn_6, .int tnv7, .int tnv8, .ref tn_9, .ref tn_10, .int tnv11, .ref tn_12, .ref tn_13, .ref tn_14, .ref tn_15, .int tnv16, .ref tn_17, .ref tn_18, .ref tnt])), (tn_15, .inl (k 0, 6, .inl tng15))] H1 := hP
            have hD : va_D A [(ob, .inr (5, [.ref ob_0, .ref ob_1])), (ob_0, .inl (k 0, 6, .inl g_13)), (ob_1, .inl (k 0, 6, .inl g_14)), (tn, .inr (10, [.int tnv0, .int tnv1, .int tnv2, .ref tn_3, .ref tn_4, .ref tn_5, .ref tn_6, .int tnv7, .int tnv8, .ref tn_9, .ref tn_10, .int tnv11, .ref tn_12, .ref tn_13, .ref tn_14, .ref tn_15, .int tnv16, .ref tn_17, .ref tn_18, .ref tnt])), (tn_15, .inl (k 0, 6, .inl tng15))] := hD
            generalize H1 = H at hP hS ⊢
            have hw_18 : (p2.toInt ≤ r_17.toInt ∧ x_16.toInt ≤ r_17.toInt ∧ (r_17.toInt = p2.toInt ∨ r_17.toInt = x_16.toInt)) := hw
            have hw_19 := hw_18
            clear hw
            refine lv_iload hx hb dX5_packs_92 (lv_at hl 4 rfl) ?_
            obtain ⟨hPc, hDc, hFc⟩ := sub3 hP hD hS hA (ws' := [(ob, .inr (5, [.ref ob_0, .ref ob_1])), (ob_0, .inl (k 0, 6, .inl g_13)), (ob_1, .inl (k 0, 6, .inl g_14)), (tn, .inr (10, [.int tnv0, .int tnv1, .int tnv2, .ref tn_3, .ref tn_4, .ref tn_5, .ref tn_6, .int tnv7, .int tnv8, .ref tn_9, .ref tn_10, .int tnv11, .ref tn_12, .ref tn_13, .ref tn_14, .ref tn_15, .int tnv16, .ref tn_17, .ref tn_18, .ref tnt])), (tn_15, .inl (k 0, 6, .inl tng15))]) [0, 1, 2, 3, 4] (by decide +kernel) rfl
            refine va_calli (va_runV (C := RX5) (As := [.ref tn, .int 4, .int r_17, .int p3]) (rest := []) ⟨hx, hb, hml, hown, hts⟩ (c_X5_packs_2 l D k ob tn r_17 p3 ob_0 ob_1 g_13 g_14 tnv0 tnv1 tnv2 tn_3 tn_4 tn_5 tn_6 tnv7 tnv8 tn_9 tn_10 tnv11 tn_12 tn_13 tn_14 tn_15 tnv16 tn_17 tn_18 tnt tng15 H.size (show 0 ≤ tnv0.toInt ∧ tnv0.toInt ≤ 8 from by omega) (show 0 ≤ tnv2.toInt ∧ tnv2.toInt ≤ 10 from by omega) (show 0 ≤ tnv8.toInt ∧ tnv8.toInt ≤ 4 from by omega) (show 0 ≤ tnv11.toInt ∧ tnv11.toInt ≤ 6 from by omega) (show 0 ≤ tnv16.toInt ∧ tnv16.toInt ≤ 2 from by omega)) (cwV 4 hts (gV tw_5_80 tw_5_82 tw_p_31 tw_1_11 tw_5_83) rfl rfl rfl hdV_X5_packs ⟨Nat.le_of_ble_eq_true rfl, Nat.le_of_ble_eq_true rfl⟩) (cz_V hK hPc hDc hN (ci := 5) (q0 := 0) rfl rfl [.ref tn, .int 4, .int r_17, .int p3]) rfl rfl hl.1 rfl (lv_room (Nat.le_of_ble_eq_true rfl)) dX5_packs_94 ⟨Nat.le_of_ble_eq_true rfl, Nat.le_of_ble_eq_true rfl⟩) hS (fun q _ h => hFc q h) hFc (fun r_20 uZ tZ H1 locs ht hvm hw hB hz1 hk1 hS => ?_)
            obtain ⟨o_21, o_22⟩ := uZ
            obtain ⟨hP1, hK1, hD1⟩ := hB
            rw [ht] at hP1
            obtain ⟨hP, hD⟩ := va_join (wr := []) (w1 := [(ob, .inr (5, [.ref ob_0, .ref ob_1])), (ob_0, .inl (k 0, 6, .inl o_21)), (ob_1, .inl (k 0, 6, .inl o_22)), (tn, .inr (10, [.int tnv0, .int tnv1, .int tnv2, .ref tn_3, .ref tn_4, .ref tn_5, .ref tn_6, .int tnv7, .int tnv8, .ref tn_9, .ref tn_10, .int tnv11, .ref tn_12, .ref tn_13, .ref tn_14, .ref tn_15, .int tnv16, .ref tn_17, .ref tn_18, .ref tnt])), (tn_15, .inl (k 0, 6, .inl tng15))]) hP hD [0, 1, 2, 3, 4] [] rfl rfl (by decide +kernel) (by decide +kernel) hk1 hFc hP1 hD1
            clear hK1 hP1 hD1 hPc hDc hFc
            clear hk1 hz1 ht hvm
            have hP : va_P D vwCl [(ob, .inr (5, [.ref ob_0, .ref ob_1])), (ob_0, .inl (k 0, 6, .inl o_21)), (ob_1, .inl (k 0, 6, .inl o_22)), (tn, .inr (10, [.int tnv0, .int tnv1, .int tnv2, .ref tn_3, .ref tn_4, .ref tn_5, .ref tn_6, .int tnv7, .int tnv8, .ref tn_9, .ref tn_10, .int tnv11, .ref tn_12, .ref tn_13, .ref tn_14, .ref tn_15, .int tnv16, .ref tn_17, .ref tn_18, .ref tnt])), (tn_15, .inl (k 0, 6, .inl tng15))] H1 := hP
            have hD : va_D A [(ob, .inr (5, [.ref ob_0, .ref ob_1])), (ob_0, .inl (k 0, 6, .inl o_21)), (ob_1, .inl (k 0, 6, .inl o_22)), (tn, .inr (10, [.int tnv0, .int tnv1, .int tnv2, .ref tn_3, .ref tn_4, .ref tn_5, .ref tn_6, .int tnv7, .int tnv8, .ref tn_9, .ref tn_10, .int tnv11, .ref tn_12, .ref tn_13, .ref tn_14, .ref tn_15, .int tnv16, .ref tn_17, .ref tn_18, .ref tnt])), (tn_15, .inl (k 0, 6, .inl tng15))] := hD
            generalize H1 = H at hP hS ⊢
            have hw_23 : (0 ≤ r_20.toInt ∧ r_20.toInt ≤ 1) := hw
            have hw_24 := hw_23
            clear hw
            refine lv_if_eq (tgt := 102) hx hb dX5_packs_97 (by decide) (fun h_25 => ?_) (fun h_25 => ?_)
            · skip
              have zh_25 : r_20.toInt = 0 := z_eq h_25
              refine lv_aload_n hx hb dX5_packs_102 rfl (lv_at hl 0 rfl) ?_
              refine va_get (D := D) (ci := 5) (v := .ref ob_0) (C := RX5) (T := TX5) (N := 2) hx hb hts iT_X5 hown hK hP 0 rfl rfl 0 (by decide) (hts _ tw_2_148) (fun _ h9 => h9) rfl dX5_packs_103 ?_
              refine lv_iload hx hb dX5_packs_106 (lv_at hl 6 rfl) ?_
              refine lv_dup2_11 hx hb dX5_packs_108 rfl rfl ?_
              refine va_iald hx hb hK hP 1 0 rfl rfl (z_in (by omega) (by omega)) dX5_packs_109 ?_
              refine lv_topi (fun x_26 ex_26 => ?_)
              refine lv_iload hx hb dX5_packs_110 (lv_at hl 5 rfl) ?_
              refine lv_iadd hx hb dX5_packs_112 ?_
              refine lv_topi (fun x_27 ex_27 => ?_)
              have zrx_26 := z_rng x_26
              refine va_iast hx hb hK hP hD hS 1 0 rfl rfl (z_in (by omega) (by omega)) dX5_packs_113 (fun H locs hP hD hS => ?_)
              obtain ⟨g_28, eg_28⟩ : ∃ z : Nat → Int32, upd o_21 L27l6.toNatClampNeg x_27 = z := ⟨_, rfl⟩
              have hP : va_P D vwCl [(ob, .inr (5, [.ref ob_0, .ref ob_1])), (ob_0, .inl (k 0, 6, .inl (upd o_21 L27l6.toNatClampNeg x_27))), (ob_1, .inl (k 0, 6, .inl o_22)), (tn, .inr (10, [.int tnv0, .int tnv1, .int tnv2, .ref tn_3, .ref tn_4, .ref tn_5, .ref tn_6, .int tnv7, .int tnv8, .ref tn_9, .ref tn_10, .int tnv11, .ref tn_12, .ref tn_13, .ref tn_14, .ref tn_15, .int tnv16, .ref tn_17, .ref tn_18, .ref tnt])), (tn_15, .inl (k 0, 6, .inl tng15))] H := hP
              have hD : va_D A [(ob, .inr (5, [.ref ob_0, .ref ob_1])), (ob_0, .inl (k 0, 6, .inl (upd o_21 L27l6.toNatClampNeg x_27))), (ob_1, .inl (k 0, 6, .inl o_22)), (tn, .inr (10, [.int tnv0, .int tnv1, .int tnv2, .ref tn_3, .ref tn_4, .ref tn_5, .ref tn_6, .int tnv7, .int tnv8, .ref tn_9, .ref tn_10, .int tnv11, .ref tn_12, .ref tn_13, .ref tn_14, .ref tn_15, .int tnv16, .ref tn_17, .ref tn_18, .ref tnt])), (tn_15, .inl (k 0, 6, .inl tng15))] := hD
              rw [eg_28] at hP hD
              obtain ⟨x_29, ex_29⟩ : ∃ y : Int32, y = L27l6 + 1 := ⟨_, rfl⟩
              have zx_29 : x_29.toInt = L27l6.toInt + 1 := by rw [ex_29]; exact z_add rfl rfl (by omega) (by omega)
              refine lv_iinc (v := x_29) (lv' := [(6, .int x_29), (0, .ref ob), (1, .ref tn), (2, .int 3), (3, .int p2), (4, .int p3), (5, .int x_2)]) hx hb dX5_packs_114 hl (k := 6) rfl (by rw [ex_29]; rfl) (by decide) rfl (fun ls hl => ?_)
              refine lv_goto (tgt := 27) hx hb dX5_packs_117 (by decide) ?_
              exact ih_3 _ _ _ _ (by omega) ⟨x_29, g_28, o_22, rfl, (show 0 ≤ x_29.toInt ∧ x_29.toInt ≤ 6 from by omega), hP.sub (ws' := [(ob, .inr (5, [.ref ob_0, .ref ob_1])), (ob_0, .inl (k 0, 6, .inl g_28)), (ob_1, .inl (k 0, 6, .inl o_22)), (tn, .inr (10, [.int tnv0, .int tnv1, .int tnv2, .ref tn_3, .ref tn_4, .ref tn_5, .ref tn_6, .int tnv7, .int tnv8, .ref tn_9, .ref tn_10, .int tnv11, .ref tn_12, .ref tn_13, .ref tn_14, .ref tn_15, .int tnv16, .ref tn_17, .ref tn_18, .ref tnt])), (tn_15, .inl (k 0, 6, .inl tng15))]) [0, 1, 2, 3, 4] rfl, hD.sub (ws' := [(ob, .inr (5, [.ref ob_0, .ref ob_1])), (ob_0, .inl (k 0, 6, .inl g_28)), (ob_1, .inl (k 0, 6, .inl o_22)), (tn, .inr (10, [.int tnv0, .int tnv1, .int tnv2, .ref tn_3, .ref tn_4, .ref tn_5, .ref tn_6, .int tnv7, .int tnv8, .ref tn_9, .ref tn_10, .int tnv11, .ref tn_12, .ref tn_13, .ref tn_14, .ref tn_15, .int tnv16, .ref tn_17, .ref tn_18, .ref tnt])), (tn_15, .inl (k 0, 6, .inl tng15))]) [0, 1, 2, 3, 4] (by decide +kernel) rfl, hS, lv_sub hl [1, 2, 3, 4, 5, 6, 0] rfl⟩
            · skip
              have zh_25 : ¬ r_20.toInt = 0 := z_ne h_25
              refine lv_iconst (v := 1) hx hb dX5_packs_100 (by decide) ?_
              obtain ⟨hP9, hD9⟩ := sub2 hP hD (ws' := [(ob, .inr (5, [.ref ob_0, .ref ob_1])), (ob_0, .inl (k 0, 6, .inl o_21)), (ob_1, .inl (k 0, 6, .inl o_22)), (tn, .inr (10, [.int tnv0, .int tnv1, .int tnv2, .ref tn_3, .ref tn_4, .ref tn_5, .ref tn_6, .int tnv7, .int tnv8, .ref tn_9, .ref tn_10, .int tnv11, .ref tn_12, .ref tn_13, .ref tn_14, .ref tn_15, .int tnv16, .ref tn_17, .ref tn_18, .ref tnt])), (tn_15, .inl (k 0, 6, .inl tng15))]) [0, 1, 2, 3, 4] (by decide +kernel) rfl
              exact W.zret (v := 1) hx hb hr (by decide) (fun tZ ht hW => ⟨⟨1, (o_21, o_22), rfl, (show 0 ≤ 1 ∧ 1 ≤ 1 from by omega), by rw [ht]; exact hP9, va_K.moved hW.alike hK, hD9⟩, hS.F ht⟩) hS.2.2 dX5_packs_101
set_option maxHeartbeats 4000000 in
set_option maxRecDepth 100000 in
theorem c_X5_packs_4 (l : Launch) (D : va_G) (k : Nat → ClassId) (ob : Nat) (tn : Nat) (p2 : Int32) (p3 : Int32) (ob_0 : Nat) (ob_1 : Nat) (obg0 : Nat → Int32) (obg1 : Nat → Int32) (tnv0 : Int32) (tnv1 : Int32) (tnv2 : Int32) (tn_3 : Nat) (tn_4 : Nat) (tn_5 : Nat) (tn_6 : Nat) (tnv7 : Int32) (tnv8 : Int32) (tn_9 : Nat) (tn_10 : Nat) (tnv11 : Int32) (tn_12 : Nat) (tn_13 : Nat) (tn_14 : Nat) (tn_15 : Nat) (tnv16 : Int32) (tn_17 : Nat) (tn_18 : Nat) (tnt : Nat) (tng15 : Nat → Int32) (sz : Nat) (h_tnv0 : 0 ≤ tnv0.toInt ∧ tnv0.toInt ≤ 8) (h_tnv2 : 0 ≤ tnv2.toInt ∧ tnv2.toInt ≤ 10) (h_tnv8 : 0 ≤ tnv8.toInt ∧ tnv8.toInt ≤ 4) (h_tnv11 : 0 ≤ tnv11.toInt ∧ tnv11.toInt ≤ 6) (h_tnv16 : 0 ≤ tnv16.toInt ∧ tnv16.toInt ≤ 2) : Met l yX5_packs (ww yX5_packs cX5_packs 7 (some .boolean)) ({ frames := 4, cells := 0, slots := 0, locals := 104 }) (Pre0 D k [(ob, .inr (5, [.ref ob_0, .ref ob_1])), (ob_0, .inl (k 0, 6, .inl obg0)), (ob_1, .inl (k 0, 6, .inl obg1)), (tn, .inr (10, [.int tnv0, .int tnv1, .int tnv2, .ref tn_3, .ref tn_4, .ref tn_5, .ref tn_6, .int tnv7, .int tnv8, .ref tn_9, .ref tn_10, .int tnv11, .ref tn_12, .ref tn_13, .ref tn_14, .ref tn_15, .int tnv16, .ref tn_17, .ref tn_18, .ref tnt])), (tn_15, .inl (k 0, 6, .inl tng15))] sz [.ref ob, .ref tn, .int 2, .int p2, .int p3]) (va_Qi (fun (r : Int32) (u : (Nat → Int32) × (Nat → Int32)) => match u with | (obg0z, obg1z) => (0 ≤ r.toInt ∧ r.toInt ≤ 1)) (fun (u : (Nat → Int32) × (Nat → Int32)) tZ => match u with | (obg0z, obg1z) => Bw D k (va_A [(ob, .inr (5, [.ref ob_0, .ref ob_1])), (ob_0, .inl (k 0, 6, .inl obg0)), (ob_1, .inl (k 0, 6, .inl obg1)), (tn, .inr (10, [.int tnv0, .int tnv1, .int tnv2, .ref tn_3, .ref tn_4, .ref tn_5, .ref tn_6, .int tnv7, .int tnv8, .ref tn_9, .ref tn_10, .int tnv11, .ref tn_12, .ref tn_13, .ref tn_14, .ref tn_15, .int tnv16, .ref tn_17, .ref tn_18, .ref tnt])), (tn_15, .inl (k 0, 6, .inl tng15))] sz) [(ob, .inr (5, [.ref ob_0, .ref ob_1])), (ob_0, .inl (k 0, 6, .inl obg0z)), (ob_1, .inl (k 0, 6, .inl obg1z)), (tn, .inr (10, [.int tnv0, .int tnv1, .int tnv2, .ref tn_3, .ref tn_4, .ref tn_5, .ref tn_6, .int tnv7, .int tnv8, .ref tn_9, .ref tn_10, .int tnv11, .ref tn_12, .ref tn_13, .ref tn_14, .ref tn_15, .int tnv16, .ref tn_17, .ref tn_18, .ref tnt])), (tn_15, .inl (k 0, 6, .inl tng15))] tZ) (va_A [(ob, .inr (5, [.ref ob_0, .ref ob_1])), (ob_0, .inl (k 0, 6, .inl obg0)), (ob_1, .inl (k 0, 6, .inl obg1)), (tn, .inr (10, [.int tnv0, .int tnv1, .int tnv2, .ref tn_3, .ref tn_4, .ref tn_5, .ref tn_6, .int tnv7, .int tnv8, .ref tn_9, .ref tn_10, .int tnv11, .ref tn_12, .ref tn_13, .ref tn_14, .ref tn_15, .int tnv16, .ref tn_17, .ref tn_18, .ref tnt])), (tn_15, .inl (k 0, 6, .inl tng15))] sz)) 0 0 (va_A [(ob, .inr (5, [.ref ob_0, .ref ob_1])), (ob_0, .inl (k 0, 6, .inl obg0)), (ob_1, .inl (k 0, 6, .inl obg1)), (tn, .inr (10, [.int tnv0, .int tnv1, .int tnv2, .ref tn_3, .ref tn_4, .ref tn_5, .ref tn_6, .int tnv7, .int tnv8, .ref tn_9, .ref tn_10, .int tnv11, .ref tn_12, .ref tn_13, .ref tn_14, .ref tn_15, .int tnv16, .ref tn_17, .ref tn_18, .ref tnt])), (tn_15, .inl (k 0, 6, .inl tng15))] sz) := by
  refine Met.ofW (cc := cX5_packs) (maxL := 7) (ret := (some .boolean)) (by decide +kernel) rfl ?_
  intro p e s m args below meth c s₁ B hml hv
  obtain ⟨rfl, hsz, hP, hK, hD0, hN⟩ := hv
  have hx := B.exec
  have hb := B.bytes
  have hr := B.returns
  have hts : ∀ w ∈ TT, w.before _ s = true := fun w h => atoms_spec (ws := ww yX5_packs cX5_packs 7 (some .boolean)) B.pre w (List.mem_cons_of_mem _ h)
  have hown : s.vm.findClass RX5 = some m.cls := findClass_of_methodNamed B.named
  have hlocks := B.notSynchronized
  subst hsz
  have hD := hD0.self (sz := s.heap.size)
  generalize hAe : va_A [(ob, .inr (5, [.ref ob_0, .ref ob_1])), (ob_0, .inl (k 0, 6, .inl obg0)), (ob_1, .inl (k 0, 6, .inl obg1)), (tn, .inr (10, [.int tnv0, .int tnv1, .int tnv2, .ref tn_3, .ref tn_4, .ref tn_5, .ref tn_6, .int tnv7, .int tnv8, .ref tn_9, .ref tn_10, .int tnv11, .ref tn_12, .ref tn_13, .ref tn_14, .ref tn_15, .int tnv16, .ref tn_17, .ref tn_18, .ref tnt])), (tn_15, .inl (k 0, 6, .inl tng15))] s.heap.size = A at hD ⊢
  have hA : ∀ q : Nat, s.heap.size ≤ q → A q := fun q h => by rw [← hAe]; exact Or.inr h
  have hS : va_S A s.heap s.heap [] := va_S.rf
  have hl := lv_entry ([.ref ob, .ref tn, .int 2, .int p2, .int p3]) (n := 7) (Nat.le_of_ble_eq_true rfl)
  rw [lg_entry_eq]
  generalize (lg_sl ([.ref ob, .ref tn, .int 2, .int p2, .int p3]) ++ List.replicate (7 - (lg_sl ([.ref ob, .ref tn, .int 2, .int p2, .int p3])).length) Slot.unset).toArray = ls at hl ⊢
  have hl : lv_has ls 7 [(0, .ref ob), (1, .ref tn), (2, .int 2), (3, .int p2), (4, .int p3)] := hl
  refine lv_iload_n hx hb dX5_packs_0 rfl (lv_at hl 2 rfl) ?_
  refine lv_aload_n hx hb dX5_packs_1 rfl (lv_at hl 1 rfl) ?_
  refine va_get (D := D) (ci := 10) (v := .int tnv11) (C := RX10) (T := TX10) (N := 20) hx hb hts iT_X10 hown hK hP 3 rfl rfl 11 (by decide) (hts _ tw_1_120) (fun _ h9 => h9) rfl dX5_packs_2 ?_
  refine lv_icmp_ge (tgt := 14) hx hb dX5_packs_5 (by decide) (fun h_1 => ?_) (fun h_1 => ?_)
  · skip
    have zh_1 : tnv11.toInt ≤ 2 := z_le h_1
    refine lv_iconst (v := 1) hx hb dX5_packs_14 (by decide) ?_
    obtain ⟨hP9, hD9⟩ := sub2 hP hD (ws' := [(ob, .inr (5, [.ref ob_0, .ref ob_1])), (ob_0, .inl (k 0, 6, .inl obg0)), (ob_1, .inl (k 0, 6, .inl obg1)), (tn, .inr (10, [.int tnv0, .int tnv1, .int tnv2, .ref tn_3, .ref tn_4, .ref tn_5, .ref tn_6, .int tnv7, .int tnv8, .ref tn_9, .ref tn_10, .int tnv11, .ref tn_12, .ref tn_13, .ref tn_14, .ref tn_15, .int tnv16, .ref tn_17, .ref tn_18, .ref tnt])), (tn_15, .inl (k 0, 6, .inl tng15))]) [0, 1, 2, 3, 4] (by decide +kernel) rfl
    exact W.zret (v := 1) hx hb hr (by decide) (fun tZ ht hW => ⟨⟨1, (obg0, obg1), rfl, (show 0 ≤ 1 ∧ 1 ≤ 1 from by omega), by rw [ht]; exact hP9, va_K.moved hW.alike hK, hD9⟩, hS.F ht⟩) hS.2.2 dX5_packs_15
  · skip
    have zh_1 : 2 < tnv11.toInt := z_nle h_1
    refine lv_iload_n hx hb dX5_packs_8 rfl (lv_at hl 2 rfl) ?_
    refine lv_bipush (v := 6) hx hb dX5_packs_9 (by decide) ?_
    refine lv_icmp_lt (tgt := 16) hx hb dX5_packs_11 (by decide) (fun _ => ?_) (fun c9 => absurd c9 (by decide))
    refine lv_aload_n hx hb dX5_packs_16 rfl (lv_at hl 1 rfl) ?_
    refine va_get (D := D) (ci := 10) (v := .ref tn_15) (C := RX10) (T := TX10) (N := 20) hx hb hts iT_X10 hown hK hP 3 rfl rfl 15 (by decide) (hts _ tw_1_139) (fun _ h9 => h9) rfl dX5_packs_17 ?_
    refine lv_iload_n hx hb dX5_packs_20 rfl (lv_at hl 2 rfl) ?_
    refine va_iald hx hb hK hP 4 0 rfl rfl (z_in (by decide) (by decide)) dX5_packs_21 ?_
    refine lv_topi (fun x_2 ex_2 => ?_)
    refine lv_istore (lv' := [(5, .int x_2), (0, .ref ob), (1, .ref tn), (2, .int 2), (3, .int p2), (4, .int p3)]) hx hb dX5_packs_22 hl (by decide) rfl (fun ls hl => ?_)
    refine lv_iconst (v := 0) hx hb dX5_packs_24 (by decide) ?_
    refine lv_istore (lv' := [(6, .int 0), (5, .int x_2), (0, .ref ob), (1, .ref tn), (2, .int 2), (3, .int p2), (4, .int p3)]) hx hb dX5_packs_25 hl (by decide) rfl (fun ls hl => ?_)
    refine loop_r (Wg := fun H locs ls => W p l e _ s m _ below meth c H locs _ _ _ (F0 m 27 ls [])) (fun n9 H locs ls => ∃ (L27l6 : Int32) (L27a1 : Nat → Int32) (L27a2 : Nat → Int32), n9 = (6 - L27l6.toInt).toNat ∧ (0 ≤ L27l6.toInt ∧ L27l6.toInt ≤ 6) ∧ va_P D vwCl [(ob, .inr (5, [.ref ob_0, .ref ob_1])), (ob_0, .inl (k 0, 6, .inl L27a1)), (ob_1, .inl (k 0, 6, .inl L27a2)), (tn, .inr (10, [.int tnv0, .int tnv1, .int tnv2, .ref tn_3, .ref tn_4, .ref tn_5, .ref tn_6, .int tnv7, .int tnv8, .ref tn_9, .ref tn_10, .int tnv11, .ref tn_12, .ref tn_13, .ref tn_14, .ref tn_15, .int tnv16, .ref tn_17, .ref tn_18, .ref tnt])), (tn_15, .inl (k 0, 6, .inl tng15))] H ∧ va_D A [(ob, .inr (5, [.ref ob_0, .ref ob_1])), (ob_0, .inl (k 0, 6, .inl L27a1)), (ob_1, .inl (k 0, 6, .inl L27a2)), (tn, .inr (10, [.int tnv0, .int tnv1, .int tnv2, .ref tn_3, .ref tn_4, .ref tn_5, .ref tn_6, .int tnv7, .int tnv8, .ref tn_9, .ref tn_10, .int tnv11, .ref tn_12, .ref tn_13, .ref tn_14, .ref tn_15, .int tnv16, .ref tn_17, .ref tn_18, .ref tnt])), (tn_15, .inl (k 0, 6, .inl tng15))] ∧ va_S A s.heap H locs ∧ lv_has ls 7 [(0, .ref ob), (1, .ref tn), (2, .int 2), (3, .int p2), (4, .int p3), (5, .int x_2), (6, .int L27l6)]) (fun n9 H locs ls hI ih_3 => ?_) _ _ _ _ ⟨0, obg0, obg1, rfl, (show 0 ≤ 0 ∧ 0 ≤ 6 from by omega), hP.sub (ws' := [(ob, .inr (5, [.ref ob_0, .ref ob_1])), (ob_0, .inl (k 0, 6, .inl obg0)), (ob_1, .inl (k 0, 6, .inl obg1)), (tn, .inr (10, [.int tnv0, .int tnv1, .int tnv2, .ref tn_3, .ref tn_4, .ref tn_5, .ref tn_6, .int tnv7, .int tnv8, .ref tn_9, .ref tn_10, .int tnv11, .ref tn_12, .ref tn_13, .ref tn_14, .ref tn_15, .int tnv16, .ref tn_17, .ref tn_18, .ref tnt])), (tn_15, .inl (k 0, 6, .inl tng15))]) [0, 1, 2, 3, 4] rfl, hD.sub (ws' := [(ob, .inr (5, [.ref ob_0, .ref ob_1])), (ob_0, .inl (k 0, 6, .inl obg0)), (ob_1, .inl (k 0, 6, .inl obg1)), (tn, .inr (10, [.int tnv0, .int tnv1, .int tnv2, .ref tn_3, .ref tn_4, .ref tn_5, .ref tn_6, .int tnv7, .int tnv8, .ref tn_9, .ref tn_10, .int tnv11, .ref tn_12, .ref tn_13, .ref tn_14, .ref tn_15, .int tnv16, .ref tn_17, .ref tn_18, .ref tnt])), (tn_15, .inl (k 0, 6, .inl tng15))]) [0, 1, 2, 3, 4] (by decide +kernel) rfl, hS, lv_sub hl [2, 3, 4, 5, 6, 1, 0] rfl⟩
    clear hP hD hS hl
    obtain ⟨L27l6, L27a1, L27a2, en_4, zL27l6, hP, hD, hS, hl⟩ := hI
    refine lv_iload hx hb dX5_packs_27 (lv_at hl 6 rfl) ?_
    refine lv_iload_n hx hb dX5_packs_29 rfl (lv_at hl 3 rfl) ?_
    refine lv_icmp_gt (tgt := 120) hx hb dX5_packs_30 (by decide) (fun h_5 => ?_) (fun h_5 => ?_)
    · skip
      have zh_5 : p2.toInt < L27l6.toInt := z_lt h_5
      refine lv_iconst (v := 0) hx hb dX5_packs_120 (by decide) ?_
      obtain ⟨hP9, hD9⟩ := sub2 hP hD (ws' := [(ob, .inr (5, [.ref ob_0, .ref ob_1])), (ob_0, .inl (k 0, 6, .inl L27a1)), (ob_1, .inl (k 0, 6, .inl L27a2)), (tn, .inr (10, [.int tnv0, .int tnv1, .int tnv2, .ref tn_3, .ref tn_4, .ref tn_5, .ref tn_6, .int tnv7, .int tnv8, .ref tn_9, .ref tn_10, .int tnv11, .ref tn_12, .ref tn_13, .ref tn_14, .ref tn_15, .int tnv16, .ref tn_17, .ref tn_18, .ref tnt])), (tn_15, .inl (k 0, 6, .inl tng15))]) [0, 1, 2, 3, 4] (by decide +kernel) rfl
      exact W.zret (v := 0) hx hb hr (by decide) (fun tZ ht hW => ⟨⟨0, (L27a1, L27a2), rfl, (show 0 ≤ 0 ∧ 0 ≤ 1 from by omega), by rw [ht]; exact hP9, va_K.moved hW.alike hK, hD9⟩, hS.F ht⟩) hS.2.2 dX5_packs_121
    · skip
      have zh_5 : L27l6.toInt ≤ p2.toInt := z_nlt h_5
      refine lv_iload hx hb dX5_packs_33 (lv_at hl 6 rfl) ?_
      refine lv_iload hx hb dX5_packs_35 (lv_at hl 4 rfl) ?_
      refine lv_icmp_ge (tgt := 120) hx hb dX5_packs_37 (by decide) (fun h_6 => ?_) (fun h_6 => ?_)
      · skip
        have zh_6 : p3.toInt ≤ L27l6.toInt := z_le h_6
        refine lv_iconst (v := 0) hx hb dX5_packs_120 (by decide) ?_
        obtain ⟨hP9, hD9⟩ := sub2 hP hD (ws' := [(ob, .inr (5, [.ref ob_0, .ref ob_1])), (ob_0, .inl (k 0, 6, .inl L27a1)), (ob_1, .inl (k 0, 6, .inl L27a2)), (tn, .inr (10, [.int tnv0, .int tnv1, .int tnv2, .ref tn_3, .ref tn_4, .ref tn_5, .ref tn_6, .int tnv7, .int tnv8, .ref tn_9, .ref tn_10, .int tnv11, .ref tn_12, .ref tn_13, .ref tn_14, .ref tn_15, .int tnv16, .ref tn_17, .ref tn_18, .ref tnt])), (tn_15, .inl (k 0, 6, .inl tng15))]) [0, 1, 2, 3, 4] (by decide +kernel) rfl
        exact W.zret (v := 0) hx hb hr (by decide) (fun tZ ht hW => ⟨⟨0, (L27a1, L27a2), rfl, (show 0 ≤ 0 ∧ 0 ≤ 1 from by omega), by rw [ht]; exact hP9, va_K.moved hW.alike hK, hD9⟩, hS.F ht⟩) hS.2.2 dX5_packs_121
      · skip
        have zh_6 : L27l6.toInt < p3.toInt := z_nle h_6
        refine lv_iload hx hb dX5_packs_40 (lv_at hl 6 rfl) ?_
        refine lv_bipush (v := 6) hx hb dX5_packs_42 (by decide) ?_
        refine lv_icmp_ge (tgt := 120) hx hb dX5_packs_44 (by decide) (fun h_7 => ?_) (fun h_7 => ?_)
        · skip
          have zh_7 : 6 ≤ L27l6.toInt := z_le h_7
          refine lv_iconst (v := 0) hx hb dX5_packs_120 (by decide) ?_
          obtain ⟨hP9, hD9⟩ := sub2 hP hD (ws' := [(ob, .inr (5, [.ref ob_0, .ref ob_1])), (ob_0, .inl (k 0, 6, .inl L27a1)), (ob_1, .inl (k 0, 6, .inl L27a2)), (tn, .inr (10, [.int tnv0, .int tnv1, .int tnv2, .ref tn_3, .ref tn_4, .ref tn_5, .ref tn_6, .int tnv7, .int tnv8, .ref tn_9, .ref tn_10, .int tnv11, .ref tn_12, .ref tn_13, .ref tn_14, .ref tn_15, .int tnv16, .ref tn_17, .ref tn_18, .ref tnt])), (tn_15, .inl (k 0, 6, .inl tng15))]) [0, 1, 2, 3, 4] (by decide +kernel) rfl
          exact W.zret (v := 0) hx hb hr (by decide) (fun tZ ht hW => ⟨⟨0, (L27a1, L27a2), rfl, (show 0 ≤ 0 ∧ 0 ≤ 1 from by omega), by rw [ht]; exact hP9, va_K.moved hW.alike hK, hD9⟩, hS.F ht⟩) hS.2.2 dX5_packs_121
        · skip
          have zh_7 : L27l6.toInt < 6 := z_nle h_7
          refine lv_aload_n hx hb dX5_packs_47 rfl (lv_at hl 0 rfl) ?_
          refine va_get (D := D) (ci := 5) (v := .ref ob_0) (C := RX5) (T := TX5) (N := 2) hx hb hts iT_X5 hown hK hP 0 rfl rfl 0 (by decide) (hts _ tw_2_148) (fun _ h9 => h9) rfl dX5_packs_48 ?_
          refine lv_iload hx hb dX5_packs_51 (lv_at hl 6 rfl) ?_
          refine va_iald hx hb hK hP 1 0 rfl rfl (z_in (by omega) (by omega)) dX5_packs_53 ?_
          refine lv_topi (fun x_8 ex_8 => ?_)
          refine lv_iload hx hb dX5_packs_54 (lv_at hl 5 rfl) ?_
          refine lv_icmp_lt (tgt := 114) hx hb dX5_packs_56 (by decide) (fun h_9 => ?_) (fun h_9 => ?_)
          · skip
            have zh_9 : x_8.toInt < x_2.toInt := z_lt h_9
            obtain ⟨x_10, ex_10⟩ : ∃ y : Int32, y = L27l6 + 1 := ⟨_, rfl⟩
            have zx_10 : x_10.toInt = L27l6.toInt + 1 := by rw [ex_10]; exact z_add rfl rfl (by omega) (by omega)
            refine lv_iinc (v := x_10) (lv' := [(6, .int x_10), (0, .ref ob), (1, .ref tn), (2, .int 2), (3, .int p2), (4, .int p3), (5, .int x_2)]) hx hb dX5_packs_114 hl (k := 6) rfl (by rw [ex_10]; rfl) (by decide) rfl (fun ls hl => ?_)
            refine lv_goto (tgt := 27) hx hb dX5_packs_117 (by decide) ?_
            exact ih_3 _ _ _ _ (by omega) ⟨x_10, L27a1, L27a2, rfl, (show 0 ≤ x_10.toInt ∧ x_10.toInt ≤ 6 from by omega), hP.sub (ws' := [(ob, .inr (5, [.ref ob_0, .ref ob_1])), (ob_0, .inl (k 0, 6, .inl L27a1)), (ob_1, .inl (k 0, 6, .inl L27a2)), (tn, .inr (10, [.int tnv0, .int tnv1, .int tnv2, .ref tn_3, .ref tn_4, .ref tn_5, .ref tn_6, .int tnv7, .int tnv8, .ref tn_9, .ref tn_10, .int tnv11, .ref tn_12, .ref tn_13, .ref tn_14, .ref tn_15, .int tnv16, .ref tn_17, .ref tn_18, .ref tnt])), (tn_15, .inl (k 0, 6, .inl tng15))]) [0, 1, 2, 3, 4] rfl, hD.sub (ws' := [(ob, .inr (5, [.ref ob_0, .ref ob_1])), (ob_0, .inl (k 0, 6, .inl L27a1)), (ob_1, .inl (k 0, 6, .inl L27a2)), (tn, .inr (10, [.int tnv0, .int tnv1, .int tnv2, .ref tn_3, .ref tn_4, .ref tn_5, .ref tn_6, .int tnv7, .int tnv8, .ref tn_9, .ref tn_10, .int tnv11, .ref tn_12, .ref tn_13, .ref tn_14, .ref tn_15, .int tnv16, .ref tn_17, .ref tn_18, .ref tnt])), (tn_15, .inl (k 0, 6, .inl tng15))]) [0, 1, 2, 3, 4] (by decide +kernel) rfl, hS, lv_sub hl [1, 2, 3, 4, 5, 6, 0] rfl⟩
          · skip
            have zh_9 : x_2.toInt ≤ x_8.toInt := z_nlt h_9
            refine lv_aload_n hx hb dX5_packs_59 rfl (lv_at hl 0 rfl) ?_
            refine va_get (D := D) (ci := 5) (v := .ref ob_0) (C := RX5) (T := TX5) (N := 2) hx hb hts iT_X5 hown hK hP 0 rfl rfl 0 (by decide) (hts _ tw_2_148) (fun _ h9 => h9) rfl dX5_packs_60 ?_
            refine lv_iload hx hb dX5_packs_63 (lv_at hl 6 rfl) ?_
            refine lv_dup2_11 hx hb dX5_packs_65 rfl rfl ?_
            refine va_iald hx hb hK hP 1 0 rfl rfl (z_in (by omega) (by omega)) dX5_packs_66 ?_
            refine lv_topi (fun x_11 ex_11 => ?_)
            obtain rfl : x_8 = x_11 := ex_8.trans ex_11.symm
            refine lv_iload hx hb dX5_packs_67 (lv_at hl 5 rfl) ?_
            refine lv_isub hx hb dX5_packs_69 ?_
            refine lv_topi (fun x_12 ex_12 => ?_)
            have zrx_8 := z_rng x_8
            have zrx_2 := z_rng x_2
            refine va_iast hx hb hK hP hD hS 1 0 rfl rfl (z_in (by omega) (by omega)) dX5_packs_70 (fun H locs hP hD hS => ?_)
            obtain ⟨g_13, eg_13⟩ : ∃ z : Nat → Int32, upd L27a1 L27l6.toNatClampNeg x_12 = z := ⟨_, rfl⟩
            have hP : va_P D vwCl [(ob, .inr (5, [.ref ob_0, .ref ob_1])), (ob_0, .inl (k 0, 6, .inl (upd L27a1 L27l6.toNatClampNeg x_12))), (ob_1, .inl (k 0, 6, .inl L27a2)), (tn, .inr (10, [.int tnv0, .int tnv1, .int tnv2, .ref tn_3, .ref tn_4, .ref tn_5, .ref tn_6, .int tnv7, .int tnv8, .ref tn_9, .ref tn_10, .int tnv11, .ref tn_12, .ref tn_13, .ref tn_14, .ref tn_15, .int tnv16, .ref tn_17, .ref tn_18, .ref tnt])), (tn_15, .inl (k 0, 6, .inl tng15))] H := hP
            have hD : va_D A [(ob, .inr (5, [.ref ob_0, .ref ob_1])), (ob_0, .inl (k 0, 6, .inl (upd L27a1 L27l6.toNatClampNeg x_12))), (ob_1, .inl (k 0, 6, .inl L27a2)), (tn, .inr (10, [.int tnv0, .int tnv1, .int tnv2, .ref tn_3, .ref tn_4, .ref tn_5, .ref tn_6, .int tnv7, .int tnv8, .ref tn_9, .ref tn_10, .int tnv11, .ref tn_12, .ref tn_13, .ref tn_14, .ref tn_15, .int tnv16, .ref tn_17, .ref tn_18, .ref tnt])), (tn_15, .inl (k 0, 6, .inl tng15))] := hD
            rw [eg_13] at hP hD
            refine lv_aload_n hx hb dX5_packs_71 rfl (lv_at hl 0 rfl) ?_
            refine va_get (D := D) (ci := 5) (v := .ref ob_1) (C := RX5) (T := TX5) (N := 2) hx hb hts iT_X5 hown hK hP 0 rfl rfl 1 (by decide) (hts _ tw_2_149) (fun _ h9 => h9) rfl dX5_packs_72 ?_
            refine lv_iload_n hx hb dX5_packs_75 rfl (lv_at hl 2 rfl) ?_
            refine lv_iload hx hb dX5_packs_76 (lv_at hl 6 rfl) ?_
            refine va_iast hx hb hK hP hD hS 2 0 rfl rfl (z_in (by decide) (by decide)) dX5_packs_78 (fun H locs hP hD hS => ?_)
            obtain ⟨g_14, eg_14⟩ : ∃ z : Nat → Int32, upd L27a2 2 L27l6 = z := ⟨_, rfl⟩
            have hP : va_P D vwCl [(ob, .inr (5, [.ref ob_0, .ref ob_1])), (ob_0, .inl (k 0, 6, .inl g_13)), (ob_1, .inl (k 0, 6, .inl (upd L27a2 2 L27l6))), (tn, .inr (10, [.int tnv0, .int tnv1, .int tnv2, .ref tn_3, .ref tn_4, .ref tn_5, .ref tn_6, .int tnv7, .int tnv8, .ref tn_9, .ref tn_10, .int tnv11, .ref tn_12, .ref tn_13, .ref tn_14, .ref tn_15, .int tnv16, .ref tn_17, .ref tn_18, .ref tnt])), (tn_15, .inl (k 0, 6, .inl tng15))] H := hP
            have hD : va_D A [(ob, .inr (5, [.ref ob_0, .ref ob_1])), (ob_0, .inl (k 0, 6, .inl g_13)), (ob_1, .inl (k 0, 6, .inl (upd L27a2 2 L27l6))), (tn, .inr (10, [.int tnv0, .int tnv1, .int tnv2, .ref tn_3, .ref tn_4, .ref tn_5, .ref tn_6, .int tnv7, .int tnv8, .ref tn_9, .ref tn_10, .int tnv11, .ref tn_12, .ref tn_13, .ref tn_14, .ref tn_15, .int tnv16, .ref tn_17, .ref tn_18, .ref tnt])), (tn_15, .inl (k 0, 6, .inl tng15))] := hD
            rw [eg_14] at hP hD
            refine lv_aload_n hx hb dX5_packs_79 rfl (lv_at hl 0 rfl) ?_
            refine lv_aload_n hx hb dX5_packs_80 rfl (lv_at hl 1 rfl) ?_
            refine lv_iload_n hx hb dX5_packs_81 rfl (lv_at hl 2 rfl) ?_
            refine lv_iconst (v := 1) hx hb dX5_packs_82 (by decide) ?_
            refine lv_iadd hx hb dX5_packs_83 ?_
            refine lv_topi (fun x_15 ex_15 => ?_)
            obtain rfl : x_15 = 3 := ex_15.trans (by decide)
            refine lv_iload_n hx hb dX5_packs_84 rfl (lv_at hl 3 rfl) ?_
            refine lv_iload hx hb dX5_packs_85 (lv_at hl 6 rfl) ?_
            refine lv_iconst (v := 1) hx hb dX5_packs_87 (by decide) ?_
            refine lv_iadd hx hb dX5_packs_88 ?_
            refine lv_topi (fun x_16 ex_16 => ?_)
            have zx_16 : x_16.toInt = L27l6.toInt + 1 := by rw [ex_16]; exact z_add rfl rfl (by omega) (by omega)
            obtain ⟨hPc, hDc, hFc⟩ := sub3 hP hD hS hA (ws' := []) [] (by decide +kernel) rfl
            refine va_calli (va_runS (As := [.int p2, .int x_16]) (rest := [.int 3, .ref tn, .ref ob]) ⟨hx, hb, hml, hown, hts⟩ (c_J9_max_7cf53 l D k p2 x_16 H.size) (va_cwS 2 hts (gS tw_5_84 tw_4_11 tw_1_14 tw_4_12) rfl rfl rfl hdS_J9_max_7cf53 ⟨Nat.le_of_ble_eq_true rfl, Nat.le_of_ble_eq_true rfl⟩) (cz_S hK hPc hDc hN [.int p2, .int x_16]) rfl rfl hl.1 rfl (lv_room (Nat.le_of_ble_eq_true rfl)) dX5_packs_89 ⟨Nat.le_of_ble_eq_true rfl, Nat.le_of_ble_eq_true rfl⟩) hS (fun q _ h => hFc q h) hFc (fun r_17 uZ tZ H1 locs ht hvm hw hB hz1 hk1 hS => ?_)
            obtain ⟨hP1, hK1, hD1⟩ := hB
            rw [ht] at hP1
            obtain ⟨hP, hD⟩ := va_join (wr := [(ob, .inr (5, [.ref ob_0, .ref ob_1])), (ob_0, .inl (k 0, 6, .inl g_13)), (ob_1, .inl (k 0, 6, .inl g_14)), (tn, .inr (10, [.int tnv0, .int tnv1, .int tnv2, .ref tn_3, .ref tn_4, .ref tn_5, .ref tn_6, .int tnv7, .int tnv8, .ref tn_9, .ref tn_10, .int tnv11, .ref tn_12, .ref tn_13, .ref tn_14, .ref tn_15, .int tnv16, .ref tn_17, .ref tn_18, .ref tnt])), (tn_15, .inl (k 0, 6, .inl tng15))]) (w1 := []) hP hD [] [0, 1, 2, 3, 4] rfl rfl (by decide +kernel) (by decide +kernel) hk1 hFc hP1 hD1
            clear hK1 hP1 hD1 hPc hDc hFc
            clear hk1 hz1 ht hvm
            have hP : va_P D vwCl [(ob, .inr (5, [.ref ob_0, .ref ob_1])), (ob_0, .inl (k 0, 6, .inl g_13)), (ob_1, .inl (k 0, 6, .inl g_14)), (tn, .inr (10, [.int tnv0, .int tnv1, .int tnv2, .ref tn_3, .ref tn_4, .ref tn_5, .ref tn_6, .int tnv7, .int tnv8, .ref tn_9, .ref tn_10, .int tnv11, .ref tn_12, .ref tn_13, .ref tn_14, .ref tn_15, .int tnv16, .ref tn_17, .ref tn_18, .ref tnt])), (tn_15, .inl (k 0, 6, .inl tng15))] H1 := hP
            have hD : va_D A [(ob, .inr (5, [.ref ob_0, .ref ob_1])), (ob_0, .inl (k 0, 6, .inl g_13)), (ob_1, .inl (k 0, 6, .inl g_14)), (tn, .inr (10, [.int tnv0, .int tnv1, .int tnv2, .ref tn_3, .ref tn_4, .ref tn_5, .ref tn_6, .int tnv7, .int tnv8, .ref tn_9, .ref tn_10, .int tnv11, .ref tn_12, .ref tn_13, .ref tn_14, .ref tn_15, .int tnv16, .ref tn_17, .ref tn_18, .ref tnt])), (tn_15, .inl (k 0, 6, .inl tng15))] := hD
            generalize H1 = H at hP hS ⊢
            have hw_18 : (p2.toInt ≤ r_17.toInt ∧ x_16.toInt ≤ r_17.toInt ∧ (r_17.toInt = p2.toInt ∨ r_17.toInt = x_16.toInt)) := hw
            have hw_19 := hw_18
            clear hw
            refine lv_iload hx hb dX5_packs_92 (lv_at hl 4 rfl) ?_
            obtain ⟨hPc, hDc, hFc⟩ := sub3 hP hD hS hA (ws' := [(ob, .inr (5, [.ref ob_0, .ref ob_1])), (ob_0, .inl (k 0, 6, .inl g_13)), (ob_1, .inl (k 0, 6, .inl g_14)), (tn, .inr (10, [.int tnv0, .int tnv1, .int tnv2, .ref tn_3, .ref tn_4, .ref tn_5, .ref tn_6, .int tnv7, .int tnv8, .ref tn_9, .ref tn_10, .int tnv11, .ref tn_12, .ref tn_13, .ref tn_14, .ref tn_15, .int tnv16, .ref tn_17, .ref tn_18, .ref tnt])), (tn_15, .inl (k 0, 6, .inl tng15))]) [0, 1, 2, 3, 4] (by decide +kernel) rfl
            refine va_calli (va_runV (C := RX5) (As := [.ref tn, .int 3, .int r_17, .int p3]) (rest := []) ⟨hx, hb, hml, hown, hts⟩ (c_X5_packs_3 l D k ob tn r_17 p3 ob_0 ob_1 g_13 g_14 tnv0 tnv1 tnv2 tn_3 tn_4 tn_5 tn_6 tnv7 tnv8 tn_9 tn_10 tnv11 tn_12 tn_13 tn_14 tn_15 tnv16 tn_17 tn_18 tnt tng15 H.size (show 0 ≤ tnv0.toInt ∧ tnv0.toInt ≤ 8 from by omega) (show 0 ≤ tnv2.toInt ∧ tnv2.toInt ≤ 10 from by omega) (show 0 ≤ tnv8.toInt ∧ tnv8.toInt ≤ 4 from by omega) (show 0 ≤ tnv11.toInt ∧ tnv11.toInt ≤ 6 from by omega) (show 0 ≤ tnv16.toInt ∧ tnv16.toInt ≤ 2 from by omega)) (cwV 4 hts (gV tw_5_80 tw_5_82 tw_p_31 tw_1_11 tw_5_83) rfl rfl rfl hdV_X5_packs ⟨Nat.le_of_ble_eq_true rfl, Nat.le_of_ble_eq_true rfl⟩) (cz_V hK hPc hDc hN (ci := 5) (q0 := 0) rfl rfl [.ref tn, .int 3, .int r_17, .int p3]) rfl rfl hl.1 rfl (lv_room (Nat.le_of_ble_eq_true rfl)) dX5_packs_94 ⟨Nat.le_of_ble_eq_true rfl, Nat.le_of_ble_eq_true rfl⟩) hS (fun q _ h => hFc q h) hFc (fun r_20 uZ tZ H1 locs ht hvm hw hB hz1 hk1 hS => ?_)
            obtain ⟨o_21, o_22⟩ := uZ
            obtain ⟨hP1, hK1, hD1⟩ := hB
            rw [ht] at hP1
            obtain ⟨hP, hD⟩ := va_join (wr := []) (w1 := [(ob, .inr (5, [.ref ob_0, .ref ob_1])), (ob_0, .inl (k 0, 6, .inl o_21)), (ob_1, .inl (k 0, 6, .inl o_22)), (tn, .inr (10, [.int tnv0, .int tnv1, .int tnv2, .ref tn_3, .ref tn_4, .ref tn_5, .ref tn_6, .int tnv7, .int tnv8, .ref tn_9, .ref tn_10, .int tnv11, .ref tn_12, .ref tn_13, .ref tn_14, .ref tn_15, .int tnv16, .ref tn_17, .ref tn_18, .ref tnt])), (tn_15, .inl (k 0, 6, .inl tng15))]) hP hD [0, 1, 2, 3, 4] [] rfl rfl (by decide +kernel) (by decide +kernel) hk1 hFc hP1 hD1
            clear hK1 hP1 hD1 hPc hDc hFc
            clear hk1 hz1 ht hvm
            have hP : va_P D vwCl [(ob, .inr (5, [.ref ob_0, .ref ob_1])), (ob_0, .inl (k 0, 6, .inl o_21)), (ob_1, .inl (k 0, 6, .inl o_22)), (tn, .inr (10, [.int tnv0, .int tnv1, .int tnv2, .ref tn_3, .ref tn_4, .ref tn_5, .ref tn_6, .int tnv7, .int tnv8, .ref tn_9, .ref tn_10, .int tnv11, .ref tn_12, .ref tn_13, .ref tn_14, .ref tn_15, .int tnv16, .ref tn_17, .ref tn_18, .ref tnt])), (tn_15, .inl (k 0, 6, .inl tng15))] H1 := hP
            have hD : va_D A [(ob, .inr (5, [.ref ob_0, .ref ob_1])), (ob_0, .inl (k 0, 6, .inl o_21)), (ob_1, .inl (k 0, 6, .inl o_22)), (tn, .inr (10, [.int tnv0, .int tnv1, .int tnv2, .ref tn_3, .ref tn_4, .ref tn_5, .ref tn_6, .int tnv7, .int tnv8, .ref tn_9, .ref tn_10, .int tnv11, .ref tn_12, .ref tn_13, .ref tn_14, .ref tn_15, .int tnv16, .ref tn_17, .ref tn_18, .ref tnt])), (tn_15, .inl (k 0, 6, .inl tng15))] := hD
            generalize H1 = H at hP hS ⊢
            have hw_23 : (0 ≤ r_20.toInt ∧ r_20.toInt ≤ 1) := hw
            have hw_24 := hw_23
            clear hw
            refine lv_if_eq (tgt := 102) hx hb dX5_packs_97 (by decide) (fun h_25 => ?_) (fun h_25 => ?_)
            · skip
              have zh_25 : r_20.toInt = 0 := z_eq h_25
              refine lv_aload_n hx hb dX5_packs_102 rfl (lv_at hl 0 rfl) ?_
              refine va_get (D := D) (ci := 5) (v := .ref ob_0) (C := RX5) (T := TX5) (N := 2) hx hb hts iT_X5 hown hK hP 0 rfl rfl 0 (by decide) (hts _ tw_2_148) (fun _ h9 => h9) rfl dX5_packs_103 ?_
              refine lv_iload hx hb dX5_packs_106 (lv_at hl 6 rfl) ?_
              refine lv_dup2_11 hx hb dX5_packs_108 rfl rfl ?_
              refine va_iald hx hb hK hP 1 0 rfl rfl (z_in (by omega) (by omega)) dX5_packs_109 ?_
              refine lv_topi (fun x_26 ex_26 => ?_)
              refine lv_iload hx hb dX5_packs_110 (lv_at hl 5 rfl) ?_
              refine lv_iadd hx hb dX5_packs_112 ?_
              refine lv_topi (fun x_27 ex_27 => ?_)
              have zrx_26 := z_rng x_26
              refine va_iast hx hb hK hP hD hS 1 0 rfl rfl (z_in (by omega) (by omega)) dX5_packs_113 (fun H locs hP hD hS => ?_)
              obtain ⟨g_28, eg_28⟩ : ∃ z : Nat → Int32, upd o_21 L27l6.toNatClampNeg x_27 = z := ⟨_, rfl⟩
              have hP : va_P D vwCl [(ob, .inr (5, [.ref ob_0, .ref ob_1])), (ob_0, .inl (k 0, 6, .inl (upd o_21 L27l6.toNatClampNeg x_27))), (ob_1, .inl (k 0, 6, .inl o_22)), (tn, .inr (10, [.int tnv0, .int tnv1, .int tnv2, .ref tn_3, .ref tn_4, .ref tn_5, .ref tn_6, .int tnv7, .int tnv8, .ref tn_9, .ref tn_10, .int tnv11, .ref tn_12, .ref tn_13, .ref tn_14, .ref tn_15, .int tnv16, .ref tn_17, .ref tn_18, .ref tnt])), (tn_15, .inl (k 0, 6, .inl tng15))] H := hP
              have hD : va_D A [(ob, .inr (5, [.ref ob_0, .ref ob_1])), (ob_0, .inl (k 0, 6, .inl (upd o_21 L27l6.toNatClampNeg x_27))), (ob_1, .inl (k 0, 6, .inl o_22)), (tn, .inr (10, [.int tnv0, .int tnv1, .int tnv2, .ref tn_3, .ref tn_4, .ref tn_5, .ref tn_6, .int tnv7, .int tnv8, .ref tn_9, .ref tn_10, .int tnv11, .ref tn_12, .ref tn_13, .ref tn_14, .ref tn_15, .int tnv16, .ref tn_17, .ref tn_18, .ref tnt])), (tn_15, .inl (k 0, 6, .inl tng15))] := hD
              rw [eg_28] at hP hD
              obtain ⟨x_29, ex_29⟩ : ∃ y : Int32, y = L27l6 + 1 := ⟨_, rfl⟩
              have zx_29 : x_29.toInt = L27l6.toInt + 1 := by rw [ex_29]; exact z_add rfl rfl (by omega) (by omega)
              refine lv_iinc (v := x_29) (lv' := [(6, .int x_29), (0, .ref ob), (1, .ref tn), (2, .int 2), (3, .int p2), (4, .int p3), (5, .int x_2)]) hx hb dX5_packs_114 hl (k := 6) rfl (by rw [ex_29]; rfl) (by decide) rfl (fun ls hl => ?_)
              refine lv_goto (tgt := 27) hx hb dX5_packs_117 (by decide) ?_
              exact ih_3 _ _ _ _ (by omega) ⟨x_29, g_28, o_22, rfl, (show 0 ≤ x_29.toInt ∧ x_29.toInt ≤ 6 from by omega), hP.sub (ws' := [(ob, .inr (5, [.ref ob_0, .ref ob_1])), (ob_0, .inl (k 0, 6, .inl g_28)), (ob_1, .inl (k 0, 6, .inl o_22)), (tn, .inr (10, [.int tnv0, .int tnv1, .int tnv2, .ref tn_3, .ref tn_4, .ref tn_5, .ref tn_6, .int tnv7, .int tnv8, .ref tn_9, .ref tn_10, .int tnv11, .ref tn_12, .ref tn_13, .ref tn_14, .ref tn_15, .int tnv16, .ref tn_17, .ref tn_18, .ref tnt])), (tn_15, .inl (k 0, 6, .inl tng15))]) [0, 1, 2, 3, 4] rfl, hD.sub (ws' := [(ob, .inr (5, [.ref ob_0, .ref ob_1])), (ob_0, .inl (k 0, 6, .inl g_28)), (ob_1, .inl (k 0, 6, .inl o_22)), (tn, .inr (10, [.int tnv0, .int tnv1, .int tnv2, .ref tn_3, .ref tn_4, .ref tn_5, .ref tn_6, .int tnv7, .int tnv8, .ref tn_9, .ref tn_10, .int tnv11, .ref tn_12, .ref tn_13, .ref tn_14, .ref tn_15, .int tnv16, .ref tn_17, .ref tn_18, .ref tnt])), (tn_15, .inl (k 0, 6, .inl tng15))]) [0, 1, 2, 3, 4] (by decide +kernel) rfl, hS, lv_sub hl [1, 2, 3, 4, 5, 6, 0] rfl⟩
            · skip
              have zh_25 : ¬ r_20.toInt = 0 := z_ne h_25
              refine lv_iconst (v := 1) hx hb dX5_packs_100 (by decide) ?_
              obtain ⟨hP9, hD9⟩ := sub2 hP hD (ws' := [(ob, .inr (5, [.ref ob_0, .ref ob_1])), (ob_0, .inl (k 0, 6, .inl o_21)), (ob_1, .inl (k 0, 6, .inl o_22)), (tn, .inr (10, [.int tnv0, .int tnv1, .int tnv2, .ref tn_3, .ref tn_4, .ref tn_5, .ref tn_6, .int tnv7, .int tnv8, .ref tn_9, .ref tn_10, .int tnv11, .ref tn_12, .ref tn_13, .ref tn_14, .ref tn_15, .int tnv16, .ref tn_17, .ref tn_18, .ref tnt])), (tn_15, .inl (k 0, 6, .inl tng15))]) [0, 1, 2, 3, 4] (by decide +kernel) rfl
              exact W.zret (v := 1) hx hb hr (by decide) (fun tZ ht hW => ⟨⟨1, (o_21, o_22), rfl, (show 0 ≤ 1 ∧ 1 ≤ 1 from by omega), by rw [ht]; exact hP9, va_K.moved hW.alike hK, hD9⟩, hS.F ht⟩) hS.2.2 dX5_packs_101
set_option maxHeartbeats 4000000 in
set_option maxRecDepth 100000 in
theorem c_X5_packs_5 (l : Launch) (D : va_G) (k : Nat → ClassId) (ob : Nat) (tn : Nat) (p2 : Int32) (p3 : Int32) (ob_0 : Nat) (ob_1 : Nat) (obg0 : Nat → Int32) (obg1 : Nat → Int32) (tnv0 : Int32) (tnv1 : Int32) (tnv2 : Int32) (tn_3 : Nat) (tn_4 : Nat) (tn_5 : Nat) (tn_6 : Nat) (tnv7 : Int32) (tnv8 : Int32) (tn_9 : Nat) (tn_10 : Nat) (tnv11 : Int32) (tn_12 : Nat) (tn_13 : Nat) (tn_14 : Nat) (tn_15 : Nat) (tnv16 : Int32) (tn_17 : Nat) (tn_18 : Nat) (tnt : Nat) (tng15 : Nat → Int32) (sz : Nat) (h_tnv0 : 0 ≤ tnv0.toInt ∧ tnv0.toInt ≤ 8) (h_tnv2 : 0 ≤ tnv2.toInt ∧ tnv2.toInt ≤ 10) (h_tnv8 : 0 ≤ tnv8.toInt ∧ tnv8.toInt ≤ 4) (h_tnv11 : 0 ≤ tnv11.toInt ∧ tnv11.toInt ≤ 6) (h_tnv16 : 0 ≤ tnv16.toInt ∧ tnv16.toInt ≤ 2) : Met l yX5_packs (ww yX5_packs cX5_packs 7 (some .boolean)) ({ frames := 5, cells := 0, slots := 0, locals := 130 }) (Pre0 D k [(ob, .inr (5, [.ref ob_0, .ref ob_1])), (ob_0, .inl (k 0, 6, .inl obg0)), (ob_1, .inl (k 0, 6, .inl obg1)), (tn, .inr (10, [.int tnv0, .int tnv1, .int tnv2, .ref tn_3, .ref tn_4, .ref tn_5, .ref tn_6, .int tnv7, .int tnv8, .ref tn_9, .ref tn_10, .int tnv11, .ref tn_12, .ref tn_13, .ref tn_14, .ref tn_15, .int tnv16, .ref tn_17, .ref tn_18, .ref tnt])), (tn_15, .inl (k 0, 6, .inl tng15))] sz [.ref ob, .ref tn, .int 1, .int p2, .int p3]) (va_Qi (fun (r : Int32) (u : (Nat → Int32) × (Nat → Int32)) => match u with | (obg0z, obg1z) => (0 ≤ r.toInt ∧ r.toInt ≤ 1)) (fun (u : (Nat → Int32) × (Nat → Int32)) tZ => match u with | (obg0z, obg1z) => Bw D k (va_A [(ob, .inr (5, [.ref ob_0, .ref ob_1])), (ob_0, .inl (k 0, 6, .inl obg0)), (ob_1, .inl (k 0, 6, .inl obg1)), (tn, .inr (10, [.int tnv0, .int tnv1, .int tnv2, .ref tn_3, .ref tn_4, .ref tn_5, .ref tn_6, .int tnv7, .int tnv8, .ref tn_9, .ref tn_10, .int tnv11, .ref tn_12, .ref tn_13, .ref tn_14, .ref tn_15, .int tnv16, .ref tn_17, .ref tn_18, .ref tnt])), (tn_15, .inl (k 0, 6, .inl tng15))] sz) [(ob, .inr (5, [.ref ob_0, .ref ob_1])), (ob_0, .inl (k 0, 6, .inl obg0z)), (ob_1, .inl (k 0, 6, .inl obg1z)), (tn, .inr (10, [.int tnv0, .int tnv1, .int tnv2, .ref tn_3, .ref tn_4, .ref tn_5, .ref tn_6, .int tnv7, .int tnv8, .ref tn_9, .ref tn_10, .int tnv11, .ref tn_12, .ref tn_13, .ref tn_14, .ref tn_15, .int tnv16, .ref tn_17, .ref tn_18, .ref tnt])), (tn_15, .inl (k 0, 6, .inl tng15))] tZ) (va_A [(ob, .inr (5, [.ref ob_0, .ref ob_1])), (ob_0, .inl (k 0, 6, .inl obg0)), (ob_1, .inl (k 0, 6, .inl obg1)), (tn, .inr (10, [.int tnv0, .int tnv1, .int tnv2, .ref tn_3, .ref tn_4, .ref tn_5, .ref tn_6, .int tnv7, .int tnv8, .ref tn_9, .ref tn_10, .int tnv11, .ref tn_12, .ref tn_13, .ref tn_14, .ref tn_15, .int tnv16, .ref tn_17, .ref tn_18, .ref tnt])), (tn_15, .inl (k 0, 6, .inl tng15))] sz)) 0 0 (va_A [(ob, .inr (5, [.ref ob_0, .ref ob_1])), (ob_0, .inl (k 0, 6, .inl obg0)), (ob_1, .inl (k 0, 6, .inl obg1)), (tn, .inr (10, [.int tnv0, .int tnv1, .int tnv2, .ref tn_3, .ref tn_4, .ref tn_5, .ref tn_6, .int tnv7, .int tnv8, .ref tn_9, .ref tn_10, .int tnv11, .ref tn_12, .ref tn_13, .ref tn_14, .ref tn_15, .int tnv16, .ref tn_17, .ref tn_18, .ref tnt])), (tn_15, .inl (k 0, 6, .inl tng15))] sz) := by
  refine Met.ofW (cc := cX5_packs) (maxL := 7) (ret := (some .boolean)) (by decide +kernel) rfl ?_
  intro p e s m args below meth c s₁ B hml hv
  obtain ⟨rfl, hsz, hP, hK, hD0, hN⟩ := hv
  have hx := B.exec
  have hb := B.bytes
  have hr := B.returns
  have hts : ∀ w ∈ TT, w.before _ s = true := fun w h => atoms_spec (ws := ww yX5_packs cX5_packs 7 (some .boolean)) B.pre w (List.mem_cons_of_mem _ h)
  have hown : s.vm.findClass RX5 = some m.cls := findClass_of_methodNamed B.named
  have hlocks := B.notSynchronized
  subst hsz
  have hD := hD0.self (sz := s.heap.size)
  generalize hAe : va_A [(ob, .inr (5, [.ref ob_0, .ref ob_1])), (ob_0, .inl (k 0, 6, .inl obg0)), (ob_1, .inl (k 0, 6, .inl obg1)), (tn, .inr (10, [.int tnv0, .int tnv1, .int tnv2, .ref tn_3, .ref tn_4, .ref tn_5, .ref tn_6, .int tnv7, .int tnv8, .ref tn_9, .ref tn_10, .int tnv11, .ref tn_12, .ref tn_13, .ref tn_14, .ref tn_15, .int tnv16, .ref tn_17, .ref tn_18, .ref tnt])), (tn_15, .inl (k 0, 6, .inl tng15))] s.heap.size = A at hD ⊢
  have hA : ∀ q : Nat, s.heap.size ≤ q → A q := fun q h => by rw [← hAe]; exact Or.inr h
  have hS : va_S A s.heap s.heap [] := va_S.rf
  have hl := lv_entry ([.ref ob, .ref tn, .int 1, .int p2, .int p3]) (n := 7) (Nat.le_of_ble_eq_true rfl)
  rw [lg_entry_eq]
  generalize (lg_sl ([.ref ob, .ref tn, .int 1, .int p2, .int p3]) ++ List.replicate (7 - (lg_sl ([.ref ob, .ref tn, .int 1, .int p2, .int p3])).length) Slot.unset).toArray = ls at hl ⊢
  have hl : lv_has ls 7 [(0, .ref ob), (1, .ref tn), (2, .int 1), (3, .int p2), (4, .int p3)] := hl
  refine lv_iload_n hx hb dX5_packs_0 rfl (lv_at hl 2 rfl) ?_
  refine lv_aload_n hx hb dX5_packs_1 rfl (lv_at hl 1 rfl) ?_
  refine va_get (D := D) (ci := 10) (v := .int tnv11) (C := RX10) (T := TX10) (N := 20) hx hb hts iT_X10 hown hK hP 3 rfl rfl 11 (by decide) (hts _ tw_1_120) (fun _ h9 => h9) rfl dX5_packs_2 ?_
  refine lv_icmp_ge (tgt := 14) hx hb dX5_packs_5 (by decide) (fun h_1 => ?_) (fun h_1 => ?_)
  · skip
    have zh_1 : tnv11.toInt ≤ 1 := z_le h_1
    refine lv_iconst (v := 1) hx hb dX5_packs_14 (by decide) ?_
    obtain ⟨hP9, hD9⟩ := sub2 hP hD (ws' := [(ob, .inr (5, [.ref ob_0, .ref ob_1])), (ob_0, .inl (k 0, 6, .inl obg0)), (ob_1, .inl (k 0, 6, .inl obg1)), (tn, .inr (10, [.int tnv0, .int tnv1, .int tnv2, .ref tn_3, .ref tn_4, .ref tn_5, .ref tn_6, .int tnv7, .int tnv8, .ref tn_9, .ref tn_10, .int tnv11, .ref tn_12, .ref tn_13, .ref tn_14, .ref tn_15, .int tnv16, .ref tn_17, .ref tn_18, .ref tnt])), (tn_15, .inl (k 0, 6, .inl tng15))]) [0, 1, 2, 3, 4] (by decide +kernel) rfl
    exact W.zret (v := 1) hx hb hr (by decide) (fun tZ ht hW => ⟨⟨1, (obg0, obg1), rfl, (show 0 ≤ 1 ∧ 1 ≤ 1 from by omega), by rw [ht]; exact hP9, va_K.moved hW.alike hK, hD9⟩, hS.F ht⟩) hS.2.2 dX5_packs_15
  · skip
    have zh_1 : 1 < tnv11.toInt := z_nle h_1
    refine lv_iload_n hx hb dX5_packs_8 rfl (lv_at hl 2 rfl) ?_
    refine lv_bipush (v := 6) hx hb dX5_packs_9 (by decide) ?_
    refine lv_icmp_lt (tgt := 16) hx hb dX5_packs_11 (by decide) (fun _ => ?_) (fun c9 => absurd c9 (by decide))
    refine lv_aload_n hx hb dX5_packs_16 rfl (lv_at hl 1 rfl) ?_
    refine va_get (D := D) (ci := 10) (v := .ref tn_15) (C := RX10) (T := TX10) (N := 20) hx hb hts iT_X10 hown hK hP 3 rfl rfl 15 (by decide) (hts _ tw_1_139) (fun _ h9 => h9) rfl dX5_packs_17 ?_
    refine lv_iload_n hx hb dX5_packs_20 rfl (lv_at hl 2 rfl) ?_
    refine va_iald hx hb hK hP 4 0 rfl rfl (z_in (by decide) (by decide)) dX5_packs_21 ?_
    refine lv_topi (fun x_2 ex_2 => ?_)
    refine lv_istore (lv' := [(5, .int x_2), (0, .ref ob), (1, .ref tn), (2, .int 1), (3, .int p2), (4, .int p3)]) hx hb dX5_packs_22 hl (by decide) rfl (fun ls hl => ?_)
    refine lv_iconst (v := 0) hx hb dX5_packs_24 (by decide) ?_
    refine lv_istore (lv' := [(6, .int 0), (5, .int x_2), (0, .ref ob), (1, .ref tn), (2, .int 1), (3, .int p2), (4, .int p3)]) hx hb dX5_packs_25 hl (by decide) rfl (fun ls hl => ?_)
    refine loop_r (Wg := fun H locs ls => W p l e _ s m _ below meth c H locs _ _ _ (F0 m 27 ls [])) (fun n9 H locs ls => ∃ (L27l6 : Int32) (L27a1 : Nat → Int32) (L27a2 : Nat → Int32), n9 = (6 - L27l6.toInt).toNat ∧ (0 ≤ L27l6.toInt ∧ L27l6.toInt ≤ 6) ∧ va_P D vwCl [(ob, .inr (5, [.ref ob_0, .ref ob_1])), (ob_0, .inl (k 0, 6, .inl L27a1)), (ob_1, .inl (k 0, 6, .inl L27a2)), (tn, .inr (10, [.int tnv0, .int tnv1, .int tnv2, .ref tn_3, .ref tn_4, .ref tn_5, .ref tn_6, .int tnv7, .int tnv8, .ref tn_9, .ref tn_10, .int tnv11, .ref tn_12, .ref tn_13, .ref tn_14, .ref tn_15, .int tnv16, .ref tn_17, .ref tn_18, .ref tnt])), (tn_15, .inl (k 0, 6, .inl tng15))] H ∧ va_D A [(ob, .inr (5, [.ref ob_0, .ref ob_1])), (ob_0, .inl (k 0, 6, .inl L27a1)), (ob_1, .inl (k 0, 6, .inl L27a2)), (tn, .inr (10, [.int tnv0, .int tnv1, .int tnv2, .ref tn_3, .ref tn_4, .ref tn_5, .ref tn_6, .int tnv7, .int tnv8, .ref tn_9, .ref tn_10, .int tnv11, .ref tn_12, .ref tn_13, .ref tn_14, .ref tn_15, .int tnv16, .ref tn_17, .ref tn_18, .ref tnt])), (tn_15, .inl (k 0, 6, .inl tng15))] ∧ va_S A s.heap H locs ∧ lv_has ls 7 [(0, .ref ob), (1, .ref tn), (2, .int 1), (3, .int p2), (4, .int p3), (5, .int x_2), (6, .int L27l6)]) (fun n9 H locs ls hI ih_3 => ?_) _ _ _ _ ⟨0, obg0, obg1, rfl, (show 0 ≤ 0 ∧ 0 ≤ 6 from by omega), hP.sub (ws' := [(ob, .inr (5, [.ref ob_0, .ref ob_1])), (ob_0, .inl (k 0, 6, .inl obg0)), (ob_1, .inl (k 0, 6, .inl obg1)), (tn, .inr (10, [.int tnv0, .int tnv1, .int tnv2, .ref tn_3, .ref tn_4, .ref tn_5, .ref tn_6, .int tnv7, .int tnv8, .ref tn_9, .ref tn_10, .int tnv11, .ref tn_12, .ref tn_13, .ref tn_14, .ref tn_15, .int tnv16, .ref tn_17, .ref tn_18, .ref tnt])), (tn_15, .inl (k 0, 6, .inl tng15))]) [0, 1, 2, 3, 4] rfl, hD.sub (ws' := [(ob, .inr (5, [.ref ob_0, .ref ob_1])), (ob_0, .inl (k 0, 6, .inl obg0)), (ob_1, .inl (k 0, 6, .inl obg1)), (tn, .inr (10, [.int tnv0, .int tnv1, .int tnv2, .ref tn_3, .ref tn_4, .ref tn_5, .ref tn_6, .int tnv7, .int tnv8, .ref tn_9, .ref tn_10, .int tnv11, .ref tn_12, .ref tn_13, .ref tn_14, .ref tn_15, .int tnv16, .ref tn_17, .ref tn_18, .ref tnt])), (tn_15, .inl (k 0, 6, .inl tng15))]) [0, 1, 2, 3, 4] (by decide +kernel) rfl, hS, lv_sub hl [2, 3, 4, 5, 6, 1, 0] rfl⟩
    clear hP hD hS hl
    obtain ⟨L27l6, L27a1, L27a2, en_4, zL27l6, hP, hD, hS, hl⟩ := hI
    refine lv_iload hx hb dX5_packs_27 (lv_at hl 6 rfl) ?_
    refine lv_iload_n hx hb dX5_packs_29 rfl (lv_at hl 3 rfl) ?_
    refine lv_icmp_gt (tgt := 120) hx hb dX5_packs_30 (by decide) (fun h_5 => ?_) (fun h_5 => ?_)
    · skip
      have zh_5 : p2.toInt < L27l6.toInt := z_lt h_5
      refine lv_iconst (v := 0) hx hb dX5_packs_120 (by decide) ?_
      obtain ⟨hP9, hD9⟩ := sub2 hP hD (ws' := [(ob, .inr (5, [.ref ob_0, .ref ob_1])), (ob_0, .inl (k 0, 6, .inl L27a1)), (ob_1, .inl (k 0, 6, .inl L27a2)), (tn, .inr (10, [.int tnv0, .int tnv1, .int tnv2, .ref tn_3, .ref tn_4, .ref tn_5, .ref tn_6, .int tnv7, .int tnv8, .ref tn_9, .ref tn_10, .int tnv11, .ref tn_12, .ref tn_13, .ref tn_14, .ref tn_15, .int tnv16, .ref tn_17, .ref tn_18, .ref tnt])), (tn_15, .inl (k 0, 6, .inl tng15))]) [0, 1, 2, 3, 4] (by decide +kernel) rfl
      exact W.zret (v := 0) hx hb hr (by decide) (fun tZ ht hW => ⟨⟨0, (L27a1, L27a2), rfl, (show 0 ≤ 0 ∧ 0 ≤ 1 from by omega), by rw [ht]; exact hP9, va_K.moved hW.alike hK, hD9⟩, hS.F ht⟩) hS.2.2 dX5_packs_121
    · skip
      have zh_5 : L27l6.toInt ≤ p2.toInt := z_nlt h_5
      refine lv_iload hx hb dX5_packs_33 (lv_at hl 6 rfl) ?_
      refine lv_iload hx hb dX5_packs_35 (lv_at hl 4 rfl) ?_
      refine lv_icmp_ge (tgt := 120) hx hb dX5_packs_37 (by decide) (fun h_6 => ?_) (fun h_6 => ?_)
      · skip
        have zh_6 : p3.toInt ≤ L27l6.toInt := z_le h_6
        refine lv_iconst (v := 0) hx hb dX5_packs_120 (by decide) ?_
        obtain ⟨hP9, hD9⟩ := sub2 hP hD (ws' := [(ob, .inr (5, [.ref ob_0, .ref ob_1])), (ob_0, .inl (k 0, 6, .inl L27a1)), (ob_1, .inl (k 0, 6, .inl L27a2)), (tn, .inr (10, [.int tnv0, .int tnv1, .int tnv2, .ref tn_3, .ref tn_4, .ref tn_5, .ref tn_6, .int tnv7, .int tnv8, .ref tn_9, .ref tn_10, .int tnv11, .ref tn_12, .ref tn_13, .ref tn_14, .ref tn_15, .int tnv16, .ref tn_17, .ref tn_18, .ref tnt])), (tn_15, .inl (k 0, 6, .inl tng15))]) [0, 1, 2, 3, 4] (by decide +kernel) rfl
        exact W.zret (v := 0) hx hb hr (by decide) (fun tZ ht hW => ⟨⟨0, (L27a1, L27a2), rfl, (show 0 ≤ 0 ∧ 0 ≤ 1 from by omega), by rw [ht]; exact hP9, va_K.moved hW.alike hK, hD9⟩, hS.F ht⟩) hS.2.2 dX5_packs_121
      · skip
        have zh_6 : L27l6.toInt < p3.toInt := z_nle h_6
        refine lv_iload hx hb dX5_packs_40 (lv_at hl 6 rfl) ?_
        refine lv_bipush (v := 6) hx hb dX5_packs_42 (by decide) ?_
        refine lv_icmp_ge (tgt := 120) hx hb dX5_packs_44 (by decide) (fun h_7 => ?_) (fun h_7 => ?_)
        · skip
          have zh_7 : 6 ≤ L27l6.toInt := z_le h_7
          refine lv_iconst (v := 0) hx hb dX5_packs_120 (by decide) ?_
          obtain ⟨hP9, hD9⟩ := sub2 hP hD (ws' := [(ob, .inr (5, [.ref ob_0, .ref ob_1])), (ob_0, .inl (k 0, 6, .inl L27a1)), (ob_1, .inl (k 0, 6, .inl L27a2)), (tn, .inr (10, [.int tnv0, .int tnv1, .int tnv2, .ref tn_3, .ref tn_4, .ref tn_5, .ref tn_6, .int tnv7, .int tnv8, .ref tn_9, .ref tn_10, .int tnv11, .ref tn_12, .ref tn_13, .ref tn_14, .ref tn_15, .int tnv16, .ref tn_17, .ref tn_18, .ref tnt])), (tn_15, .inl (k 0, 6, .inl tng15))]) [0, 1, 2, 3, 4] (by decide +kernel) rfl
          exact W.zret (v := 0) hx hb hr (by decide) (fun tZ ht hW => ⟨⟨0, (L27a1, L27a2), rfl, (show 0 ≤ 0 ∧ 0 ≤ 1 from by omega), by rw [ht]; exact hP9, va_K.moved hW.alike hK, hD9⟩, hS.F ht⟩) hS.2.2 dX5_packs_121
        · skip
          have zh_7 : L27l6.toInt < 6 := z_nle h_7
          refine lv_aload_n hx hb dX5_packs_47 rfl (lv_at hl 0 rfl) ?_
          refine va_get (D := D) (ci := 5) (v := .ref ob_0) (C := RX5) (T := TX5) (N := 2) hx hb hts iT_X5 hown hK hP 0 rfl rfl 0 (by decide) (hts _ tw_2_148) (fun _ h9 => h9) rfl dX5_packs_48 ?_
          refine lv_iload hx hb dX5_packs_51 (lv_at hl 6 rfl) ?_
          refine va_iald hx hb hK hP 1 0 rfl rfl (z_in (by omega) (by omega)) dX5_packs_53 ?_
          refine lv_topi (fun x_8 ex_8 => ?_)
          refine lv_iload hx hb dX5_packs_54 (lv_at hl 5 rfl) ?_
          refine lv_icmp_lt (tgt := 114) hx hb dX5_packs_56 (by decide) (fun h_9 => ?_) (fun h_9 => ?_)
          · skip
            have zh_9 : x_8.toInt < x_2.toInt := z_lt h_9
            obtain ⟨x_10, ex_10⟩ : ∃ y : Int32, y = L27l6 + 1 := ⟨_, rfl⟩
            have zx_10 : x_10.toInt = L27l6.toInt + 1 := by rw [ex_10]; exact z_add rfl rfl (by omega) (by omega)
            refine lv_iinc (v := x_10) (lv' := [(6, .int x_10), (0, .ref ob), (1, .ref tn), (2, .int 1), (3, .int p2), (4, .int p3), (5, .int x_2)]) hx hb dX5_packs_114 hl (k := 6) rfl (by rw [ex_10]; rfl) (by decide) rfl (fun ls hl => ?_)
            refine lv_goto (tgt := 27) hx hb dX5_packs_117 (by decide) ?_
            exact ih_3 _ _ _ _ (by omega) ⟨x_10, L27a1, L27a2, rfl, (show 0 ≤ x_10.toInt ∧ x_10.toInt ≤ 6 from by omega), hP.sub (ws' := [(ob, .inr (5, [.ref ob_0, .ref ob_1])), (ob_0, .inl (k 0, 6, .inl L27a1)), (ob_1, .inl (k 0, 6, .inl L27a2)), (tn, .inr (10, [.int tnv0, .int tnv1, .int tnv2, .ref tn_3, .ref tn_4, .ref tn_5, .ref tn_6, .int tnv7, .int tnv8, .ref tn_9, .ref tn_10, .int tnv11, .ref tn_12, .ref tn_13, .ref tn_14, .ref tn_15, .int tnv16, .ref tn_17, .ref tn_18, .ref tnt])), (tn_15, .inl (k 0, 6, .inl tng15))]) [0, 1, 2, 3, 4] rfl, hD.sub (ws' := [(ob, .inr (5, [.ref ob_0, .ref ob_1])), (ob_0, .inl (k 0, 6, .inl L27a1)), (ob_1, .inl (k 0, 6, .inl L27a2)), (tn, .inr (10, [.int tnv0, .int tnv1, .int tnv2, .ref tn_3, .ref tn_4, .ref tn_5, .ref tn_6, .int tnv7, .int tnv8, .ref tn_9, .ref tn_10, .int tnv11, .ref tn_12, .ref tn_13, .ref tn_14, .ref tn_15, .int tnv16, .ref tn_17, .ref tn_18, .ref tnt])), (tn_15, .inl (k 0, 6, .inl tng15))]) [0, 1, 2, 3, 4] (by decide +kernel) rfl, hS, lv_sub hl [1, 2, 3, 4, 5, 6, 0] rfl⟩
          · skip
            have zh_9 : x_2.toInt ≤ x_8.toInt := z_nlt h_9
            refine lv_aload_n hx hb dX5_packs_59 rfl (lv_at hl 0 rfl) ?_
            refine va_get (D := D) (ci := 5) (v := .ref ob_0) (C := RX5) (T := TX5) (N := 2) hx hb hts iT_X5 hown hK hP 0 rfl rfl 0 (by decide) (hts _ tw_2_148) (fun _ h9 => h9) rfl dX5_packs_60 ?_
            refine lv_iload hx hb dX5_packs_63 (lv_at hl 6 rfl) ?_
            refine lv_dup2_11 hx hb dX5_packs_65 rfl rfl ?_
            refine va_iald hx hb hK hP 1 0 rfl rfl (z_in (by omega) (by omega)) dX5_packs_66 ?_
            refine lv_topi (fun x_11 ex_11 => ?_)
            obtain rfl : x_8 = x_11 := ex_8.trans ex_11.symm
            refine lv_iload hx hb dX5_packs_67 (lv_at hl 5 rfl) ?_
            refine lv_isub hx hb dX5_packs_69 ?_
            refine lv_topi (fun x_12 ex_12 => ?_)
            have zrx_8 := z_rng x_8
            have zrx_2 := z_rng x_2
            refine va_iast hx hb hK hP hD hS 1 0 rfl rfl (z_in (by omega) (by omega)) dX5_packs_70 (fun H locs hP hD hS => ?_)
            obtain ⟨g_13, eg_13⟩ : ∃ z : Nat → Int32, upd L27a1 L27l6.toNatClampNeg x_12 = z := ⟨_, rfl⟩
            have hP : va_P D vwCl [(ob, .inr (5, [.ref ob_0, .ref ob_1])), (ob_0, .inl (k 0, 6, .inl (upd L27a1 L27l6.toNatClampNeg x_12))), (ob_1, .inl (k 0, 6, .inl L27a2)), (tn, .inr (10, [.int tnv0, .int tnv1, .int tnv2, .ref tn_3, .ref tn_4, .ref tn_5, .ref tn_6, .int tnv7, .int tnv8, .ref tn_9, .ref tn_10, .int tnv11, .ref tn_12, .ref tn_13, .ref tn_14, .ref tn_15, .int tnv16, .ref tn_17, .ref tn_18, .ref tnt])), (tn_15, .inl (k 0, 6, .inl tng15))] H := hP
            have hD : va_D A [(ob, .inr (5, [.ref ob_0, .ref ob_1])), (ob_0, .inl (k 0, 6, .inl (upd L27a1 L27l6.toNatClampNeg x_12))), (ob_1, .inl (k 0, 6, .inl L27a2)), (tn, .inr (10, [.int tnv0, .int tnv1, .int tnv2, .ref tn_3, .ref tn_4, .ref tn_5, .ref tn_6, .int tnv7, .int tnv8, .ref tn_9, .ref tn_10, .int tnv11, .ref tn_12, .ref tn_13, .ref tn_14, .ref tn_15, .int tnv16, .ref tn_17, .ref tn_18, .ref tnt])), (tn_15, .inl (k 0, 6, .inl tng15))] := hD
            rw [eg_13] at hP hD
            refine lv_aload_n hx hb dX5_packs_71 rfl (lv_at hl 0 rfl) ?_
            refine va_get (D := D) (ci := 5) (v := .ref ob_1) (C := RX5) (T := TX5) (N := 2) hx hb hts iT_X5 hown hK hP 0 rfl rfl 1 (by decide) (hts _ tw_2_149) (fun _ h9 => h9) rfl dX5_packs_72 ?_
            refine lv_iload_n hx hb dX5_packs_75 rfl (lv_at hl 2 rfl) ?_
            refine lv_iload hx hb dX5_packs_76 (lv_at hl 6 rfl) ?_
            refine va_iast hx hb hK hP hD hS 2 0 rfl rfl (z_in (by decide) (by decide)) dX5_packs_78 (fun H locs hP hD hS => ?_)
            obtain ⟨g_14, eg_14⟩ : ∃ z : Nat → Int32, upd L27a2 1 L27l6 = z := ⟨_, rfl⟩
            have hP : va_P D vwCl [(ob, .inr (5, [.ref ob_0, .ref ob_1])), (ob_0, .inl (k 0, 6, .inl g_13)), (ob_1, .inl (k 0, 6, .inl (upd L27a2 1 L27l6))), (tn, .inr (10, [.int tnv0, .int tnv1, .int tnv2, .ref tn_3, .ref tn_4, .ref tn_5, .ref tn_6, .int tnv7, .int tnv8, .ref tn_9, .ref tn_10, .int tnv11, .ref tn_12, .ref tn_13, .ref tn_14, .ref tn_15, .int tnv16, .ref tn_17, .ref tn_18, .ref tnt])), (tn_15, .inl (k 0, 6, .inl tng15))] H := hP
            have hD : va_D A [(ob, .inr (5, [.ref ob_0, .ref ob_1])), (ob_0, .inl (k 0, 6, .inl g_13)), (ob_1, .inl (k 0, 6, .inl (upd L27a2 1 L27l6))), (tn, .inr (10, [.int tnv0, .int tnv1, .int tnv2, .ref tn_3, .ref tn_4, .ref tn_5, .ref tn_6, .int tnv7, .int tnv8, .ref tn_9, .ref tn_10, .int tnv11, .ref tn_12, .ref tn_13, .ref tn_14, .ref tn_15, .int tnv16, .ref tn_17, .ref tn_18, .ref tnt])), (tn_15, .inl (k 0, 6, .inl tng15))] := hD
            rw [eg_14] at hP hD
            refine lv_aload_n hx hb dX5_packs_79 rfl (lv_at hl 0 rfl) ?_
            refine lv_aload_n hx hb dX5_packs_80 rfl (lv_at hl 1 rfl) ?_
            refine lv_iload_n hx hb dX5_packs_81 rfl (lv_at hl 2 rfl) ?_
            refine lv_iconst (v := 1) hx hb dX5_packs_82 (by decide) ?_
            refine lv_iadd hx hb dX5_packs_83 ?_
            refine lv_topi (fun x_15 ex_15 => ?_)
            obtain rfl : x_15 = 2 := ex_15.trans (by decide)
            refine lv_iload_n hx hb dX5_packs_84 rfl (lv_at hl 3 rfl) ?_
            refine lv_iload hx hb dX5_packs_85 (lv_at hl 6 rfl) ?_
            refine lv_iconst (v := 1) hx hb dX5_packs_87 (by decide) ?_
            refine lv_iadd hx hb dX5_packs_88 ?_
            refine lv_topi (fun x_16 ex_16 => ?_)
            have zx_16 : x_16.toInt = L27l6.toInt + 1 := by rw [ex_16]; exact z_add rfl rfl (by omega) (by omega)
            obtain ⟨hPc, hDc, hFc⟩ := sub3 hP hD hS hA (ws' := []) [] (by decide +kernel) rfl
            refine va_calli (va_runS (As := [.int p2, .int x_16]) (rest := [.int 2, .ref tn, .ref ob]) ⟨hx, hb, hml, hown, hts⟩ (c_J9_max_7cf53 l D k p2 x_16 H.size) (va_cwS 2 hts (gS tw_5_84 tw_4_11 tw_1_14 tw_4_12) rfl rfl rfl hdS_J9_max_7cf53 ⟨Nat.le_of_ble_eq_true rfl, Nat.le_of_ble_eq_true rfl⟩) (cz_S hK hPc hDc hN [.int p2, .int x_16]) rfl rfl hl.1 rfl (lv_room (Nat.le_of_ble_eq_true rfl)) dX5_packs_89 ⟨Nat.le_of_ble_eq_true rfl, Nat.le_of_ble_eq_true rfl⟩) hS (fun q _ h => hFc q h) hFc (fun r_17 uZ tZ H1 locs ht hvm hw hB hz1 hk1 hS => ?_)
            obtain ⟨hP1, hK1, hD1⟩ := hB
            rw [ht] at hP1
            obtain ⟨hP, hD⟩ := va_join (wr := [(ob, .inr (5, [.ref ob_0, .ref ob_1])), (ob_0, .inl (k 0, 6, .inl g_13)), (ob_1, .inl (k 0, 6, .inl g_14)), (tn, .inr (10, [.int tnv0, .int tnv1, .int tnv2, .ref tn_3, .ref tn_4, .ref tn_5, .ref tn_6, .int tnv7, .int tnv8, .ref tn_9, .ref tn_10, .int tnv11, .ref tn_12, .ref tn_13, .ref tn_14, .ref tn_15, .int tnv16, .ref tn_17, .ref tn_18, .ref tnt])), (tn_15, .inl (k 0, 6, .inl tng15))]) (w1 := []) hP hD [] [0, 1, 2, 3, 4] rfl rfl (by decide +kernel) (by decide +kernel) hk1 hFc hP1 hD1
            clear hK1 hP1 hD1 hPc hDc hFc
            clear hk1 hz1 ht hvm
            have hP : va_P D vwCl [(ob, .inr (5, [.ref ob_0, .ref ob_1])), (ob_0, .inl (k 0, 6, .inl g_13)), (ob_1, .inl (k 0, 6, .inl g_14)), (tn, .inr (10, [.int tnv0, .int tnv1, .int tnv2, .ref tn_3, .ref tn_4, .ref tn_5, .ref tn_6, .int tnv7, .int tnv8, .ref tn_9, .ref tn_10, .int tnv11, .ref tn_12, .ref tn_13, .ref tn_14, .ref tn_15, .int tnv16, .ref tn_17, .ref tn_18, .ref tnt])), (tn_15, .inl (k 0, 6, .inl tng15))] H1 := hP
            have hD : va_D A [(ob, .inr (5, [.ref ob_0, .ref ob_1])), (ob_0, .inl (k 0, 6, .inl g_13)), (ob_1, .inl (k 0, 6, .inl g_14)), (tn, .inr (10, [.int tnv0, .int tnv1, .int tnv2, .ref tn_3, .ref tn_4, .ref tn_5, .ref tn_6, .int tnv7, .int tnv8, .ref tn_9, .ref tn_10, .int tnv11, .ref tn_12, .ref tn_13, .ref tn_14, .ref tn_15, .int tnv16, .ref tn_17, .ref tn_18, .ref tnt])), (tn_15, .inl (k 0, 6, .inl tng15))] := hD
            generalize H1 = H at hP hS ⊢
            have hw_18 : (p2.toInt ≤ r_17.toInt ∧ x_16.toInt ≤ r_17.toInt ∧ (r_17.toInt = p2.toInt ∨ r_17.toInt = x_16.toInt)) := hw
            have hw_19 := hw_18
            clear hw
            refine lv_iload hx hb dX5_packs_92 (lv_at hl 4 rfl) ?_
            obtain ⟨hPc, hDc, hFc⟩ := sub3 hP hD hS hA (ws' := [(ob, .inr (5, [.ref ob_0, .ref ob_1])), (ob_0, .inl (k 0, 6, .inl g_13)), (ob_1, .inl (k 0, 6, .inl g_14)), (tn, .inr (10, [.int tnv0, .int tnv1, .int tnv2, .ref tn_3, .ref tn_4, .ref tn_5, .ref tn_6, .int tnv7, .int tnv8, .ref tn_9, .ref tn_10, .int tnv11, .ref tn_12, .ref tn_13, .ref tn_14, .ref tn_15, .int tnv16, .ref tn_17, .ref tn_18, .ref tnt])), (tn_15, .inl (k 0, 6, .inl tng15))]) [0, 1, 2, 3, 4] (by decide +kernel) rfl
            refine va_calli (va_runV (C := RX5) (As := [.ref tn, .int 2, .int r_17, .int p3]) (rest := []) ⟨hx, hb, hml, hown, hts⟩ (c_X5_packs_4 l D k ob tn r_17 p3 ob_0 ob_1 g_13 g_14 tnv0 tnv1 tnv2 tn_3 tn_4 tn_5 tn_6 tnv7 tnv8 tn_9 tn_10 tnv11 tn_12 tn_13 tn_14 tn_15 tnv16 tn_17 tn_18 tnt tng15 H.size (show 0 ≤ tnv0.toInt ∧ tnv0.toInt ≤ 8 from by omega) (show 0 ≤ tnv2.toInt ∧ tnv2.toInt ≤ 10 from by omega) (show 0 ≤ tnv8.toInt ∧ tnv8.toInt ≤ 4 from by omega) (show 0 ≤ tnv11.toInt ∧ tnv11.toInt ≤ 6 from by omega) (show 0 ≤ tnv16.toInt ∧ tnv16.toInt ≤ 2 from by omega)) (cwV 4 hts (gV tw_5_80 tw_5_82 tw_p_31 tw_1_11 tw_5_83) rfl rfl rfl hdV_X5_packs ⟨Nat.le_of_ble_eq_true rfl, Nat.le_of_ble_eq_true rfl⟩) (cz_V hK hPc hDc hN (ci := 5) (q0 := 0) rfl rfl [.ref tn, .int 2, .int r_17, .int p3]) rfl rfl hl.1 rfl (lv_room (Nat.le_of_ble_eq_true rfl)) dX5_packs_94 ⟨Nat.le_of_ble_eq_true rfl, Nat.le_of_ble_eq_true rfl⟩) hS (fun q _ h => hFc q h) hFc (fun r_20 uZ tZ H1 locs ht hvm hw hB hz1 hk1 hS => ?_)
            obtain ⟨o_21, o_22⟩ := uZ
            obtain ⟨hP1, hK1, hD1⟩ := hB
            rw [ht] at hP1
            obtain ⟨hP, hD⟩ := va_join (wr := []) (w1 := [(ob, .inr (5, [.ref ob_0, .ref ob_1])), (ob_0, .inl (k 0, 6, .inl o_21)), (ob_1, .inl (k 0, 6, .inl o_22)), (tn, .inr (10, [.int tnv0, .int tnv1, .int tnv2, .ref tn_3, .ref tn_4, .ref tn_5, .ref tn_6, .int tnv7, .int tnv8, .ref tn_9, .ref tn_10, .int tnv11, .ref tn_12, .ref tn_13, .ref tn_14, .ref tn_15, .int tnv16, .ref tn_17, .ref tn_18, .ref tnt])), (tn_15, .inl (k 0, 6, .inl tng15))]) hP hD [0, 1, 2, 3, 4] [] rfl rfl (by decide +kernel) (by decide +kernel) hk1 hFc hP1 hD1
            clear hK1 hP1 hD1 hPc hDc hFc
            clear hk1 hz1 ht hvm
            have hP : va_P D vwCl [(ob, .inr (5, [.ref ob_0, .ref ob_1])), (ob_0, .inl (k 0, 6, .inl o_21)), (ob_1, .inl (k 0, 6, .inl o_22)), (tn, .inr (10, [.int tnv0, .int tnv1, .int tnv2, .ref tn_3, .ref tn_4, .ref tn_5, .ref tn_6, .int tnv7, .int tnv8, .ref tn_9, .ref tn_10, .int tnv11, .ref tn_12, .ref tn_13, .ref tn_14, .ref tn_15, .int tnv16, .ref tn_17, .ref tn_18, .ref tnt])), (tn_15, .inl (k 0, 6, .inl tng15))] H1 := hP
            have hD : va_D A [(ob, .inr (5, [.ref ob_0, .ref ob_1])), (ob_0, .inl (k 0, 6, .inl o_21)), (ob_1, .inl (k 0, 6, .inl o_22)), (tn, .inr (10, [.int tnv0, .int tnv1, .int tnv2, .ref tn_3, .ref tn_4, .ref tn_5, .ref tn_6, .int tnv7, .int tnv8, .ref tn_9, .ref tn_10, .int tnv11, .ref tn_12, .ref tn_13, .ref tn_14, .ref tn_15, .int tnv16, .ref tn_17, .ref tn_18, .ref tnt])), (tn_15, .inl (k 0, 6, .inl tng15))] := hD
            generalize H1 = H at hP hS ⊢
            have hw_23 : (0 ≤ r_20.toInt ∧ r_20.toInt ≤ 1) := hw
            have hw_24 := hw_23
            clear hw
            refine lv_if_eq (tgt := 102) hx hb dX5_packs_97 (by decide) (fun h_25 => ?_) (fun h_25 => ?_)
            · skip
              have zh_25 : r_20.toInt = 0 := z_eq h_25
              refine lv_aload_n hx hb dX5_packs_102 rfl (lv_at hl 0 rfl) ?_
              refine va_get (D := D) (ci := 5) (v := .ref ob_0) (C := RX5) (T := TX5) (N := 2) hx hb hts iT_X5 hown hK hP 0 rfl rfl 0 (by decide) (hts _ tw_2_148) (fun _ h9 => h9) rfl dX5_packs_103 ?_
              refine lv_iload hx hb dX5_packs_106 (lv_at hl 6 rfl) ?_
              refine lv_dup2_11 hx hb dX5_packs_108 rfl rfl ?_
              refine va_iald hx hb hK hP 1 0 rfl rfl (z_in (by omega) (by omega)) dX5_packs_109 ?_
              refine lv_topi (fun x_26 ex_26 => ?_)
              refine lv_iload hx hb dX5_packs_110 (lv_at hl 5 rfl) ?_
              refine lv_iadd hx hb dX5_packs_112 ?_
              refine lv_topi (fun x_27 ex_27 => ?_)
              have zrx_26 := z_rng x_26
              refine va_iast hx hb hK hP hD hS 1 0 rfl rfl (z_in (by omega) (by omega)) dX5_packs_113 (fun H locs hP hD hS => ?_)
              obtain ⟨g_28, eg_28⟩ : ∃ z : Nat → Int32, upd o_21 L27l6.toNatClampNeg x_27 = z := ⟨_, rfl⟩
              have hP : va_P D vwCl [(ob, .inr (5, [.ref ob_0, .ref ob_1])), (ob_0, .inl (k 0, 6, .inl (upd o_21 L27l6.toNatClampNeg x_27))), (ob_1, .inl (k 0, 6, .inl o_22)), (tn, .inr (10, [.int tnv0, .int tnv1, .int tnv2, .ref tn_3, .ref tn_4, .ref tn_5, .ref tn_6, .int tnv7, .int tnv8, .ref tn_9, .ref tn_10, .int tnv11, .ref tn_12, .ref tn_13, .ref tn_14, .ref tn_15, .int tnv16, .ref tn_17, .ref tn_18, .ref tnt])), (tn_15, .inl (k 0, 6, .inl tng15))] H := hP
              have hD : va_D A [(ob, .inr (5, [.ref ob_0, .ref ob_1])), (ob_0, .inl (k 0, 6, .inl (upd o_21 L27l6.toNatClampNeg x_27))), (ob_1, .inl (k 0, 6, .inl o_22)), (tn, .inr (10, [.int tnv0, .int tnv1, .int tnv2, .ref tn_3, .ref tn_4, .ref tn_5, .ref tn_6, .int tnv7, .int tnv8, .ref tn_9, .ref tn_10, .int tnv11, .ref tn_12, .ref tn_13, .ref tn_14, .ref tn_15, .int tnv16, .ref tn_17, .ref tn_18, .ref tnt])), (tn_15, .inl (k 0, 6, .inl tng15))] := hD
              rw [eg_28] at hP hD
              obtain ⟨x_29, ex_29⟩ : ∃ y : Int32, y = L27l6 + 1 := ⟨_, rfl⟩
              have zx_29 : x_29.toInt = L27l6.toInt + 1 := by rw [ex_29]; exact z_add rfl rfl (by omega) (by omega)
              refine lv_iinc (v := x_29) (lv' := [(6, .int x_29), (0, .ref ob), (1, .ref tn), (2, .int 1), (3, .int p2), (4, .int p3), (5, .int x_2)]) hx hb dX5_packs_114 hl (k := 6) rfl (by rw [ex_29]; rfl) (by decide) rfl (fun ls hl => ?_)
              refine lv_goto (tgt := 27) hx hb dX5_packs_117 (by decide) ?_
              exact ih_3 _ _ _ _ (by omega) ⟨x_29, g_28, o_22, rfl, (show 0 ≤ x_29.toInt ∧ x_29.toInt ≤ 6 from by omega), hP.sub (ws' := [(ob, .inr (5, [.ref ob_0, .ref ob_1])), (ob_0, .inl (k 0, 6, .inl g_28)), (ob_1, .inl (k 0, 6, .inl o_22)), (tn, .inr (10, [.int tnv0, .int tnv1, .int tnv2, .ref tn_3, .ref tn_4, .ref tn_5, .ref tn_6, .int tnv7, .int tnv8, .ref tn_9, .ref tn_10, .int tnv11, .ref tn_12, .ref tn_13, .ref tn_14, .ref tn_15, .int tnv16, .ref tn_17, .ref tn_18, .ref tnt])), (tn_15, .inl (k 0, 6, .inl tng15))]) [0, 1, 2, 3, 4] rfl, hD.sub (ws' := [(ob, .inr (5, [.ref ob_0, .ref ob_1])), (ob_0, .inl (k 0, 6, .inl g_28)), (ob_1, .inl (k 0, 6, .inl o_22)), (tn, .inr (10, [.int tnv0, .int tnv1, .int tnv2, .ref tn_3, .ref tn_4, .ref tn_5, .ref tn_6, .int tnv7, .int tnv8, .ref tn_9, .ref tn_10, .int tnv11, .ref tn_12, .ref tn_13, .ref tn_14, .ref tn_15, .int tnv16, .ref tn_17, .ref tn_18, .ref tnt])), (tn_15, .inl (k 0, 6, .inl tng15))]) [0, 1, 2, 3, 4] (by decide +kernel) rfl, hS, lv_sub hl [1, 2, 3, 4, 5, 6, 0] rfl⟩
            · skip
              have zh_25 : ¬ r_20.toInt = 0 := z_ne h_25
              refine lv_iconst (v := 1) hx hb dX5_packs_100 (by decide) ?_
              obtain ⟨hP9, hD9⟩ := sub2 hP hD (ws' := [(ob, .inr (5, [.ref ob_0, .ref ob_1])), (ob_0, .inl (k 0, 6, .inl o_21)), (ob_1, .inl (k 0, 6, .inl o_22)), (tn, .inr (10, [.int tnv0, .int tnv1, .int tnv2, .ref tn_3, .ref tn_4, .ref tn_5, .ref tn_6, .int tnv7, .int tnv8, .ref tn_9, .ref tn_10, .int tnv11, .ref tn_12, .ref tn_13, .ref tn_14, .ref tn_15, .int tnv16, .ref tn_17, .ref tn_18, .ref tnt])), (tn_15, .inl (k 0, 6, .inl tng15))]) [0, 1, 2, 3, 4] (by decide +kernel) rfl
              exact W.zret (v := 1) hx hb hr (by decide) (fun tZ ht hW => ⟨⟨1, (o_21, o_22), rfl, (show 0 ≤ 1 ∧ 1 ≤ 1 from by omega), by rw [ht]; exact hP9, va_K.moved hW.alike hK, hD9⟩, hS.F ht⟩) hS.2.2 dX5_packs_101
set_option maxHeartbeats 4000000 in
set_option maxRecDepth 100000 in
theorem c_X5_packs_6 (l : Launch) (D : va_G) (k : Nat → ClassId) (ob : Nat) (tn : Nat) (p2 : Int32) (p3 : Int32) (ob_0 : Nat) (ob_1 : Nat) (obg0 : Nat → Int32) (obg1 : Nat → Int32) (tnv0 : Int32) (tnv1 : Int32) (tnv2 : Int32) (tn_3 : Nat) (tn_4 : Nat) (tn_5 : Nat) (tn_6 : Nat) (tnv7 : Int32) (tnv8 : Int32) (tn_9 : Nat) (tn_10 : Nat) (tnv11 : Int32) (tn_12 : Nat) (tn_13 : Nat) (tn_14 : Nat) (tn_15 : Nat) (tnv16 : Int32) (tn_17 : Nat) (tn_18 : Nat) (tnt : Nat) (tng15 : Nat → Int32) (sz : Nat) (h_tnv0 : 0 ≤ tnv0.toInt ∧ tnv0.toInt ≤ 8) (h_tnv2 : 0 ≤ tnv2.toInt ∧ tnv2.toInt ≤ 10) (h_tnv8 : 0 ≤ tnv8.toInt ∧ tnv8.toInt ≤ 4) (h_tnv11 : 0 ≤ tnv11.toInt ∧ tnv11.toInt ≤ 6) (h_tnv16 : 0 ≤ tnv16.toInt ∧ tnv16.toInt ≤ 2) : Met l yX5_packs (ww yX5_packs cX5_packs 7 (some .boolean)) ({ frames := 6, cells := 0, slots := 0, locals := 156 }) (Pre0 D k [(ob, .inr (5, [.ref ob_0, .ref ob_1])), (ob_0, .inl (k 0, 6, .inl obg0)), (ob_1, .inl (k 0, 6, .inl obg1)), (tn, .inr (10, [.int tnv0, .int tnv1, .int tnv2, .ref tn_3, .ref tn_4, .ref tn_5, .ref tn_6, .int tnv7, .int tnv8, .ref tn_9, .ref tn_10, .int tnv11, .ref tn_12, .ref tn_13, .ref tn_14, .ref tn_15, .int tnv16, .ref tn_17, .ref tn_18, .ref tnt])), (tn_15, .inl (k 0, 6, .inl tng15))] sz [.ref ob, .ref tn, .int 0, .int p2, .int p3]) (va_Qi (fun (r : Int32) (u : (Nat → Int32) × (Nat → Int32)) => match u with | (obg0z, obg1z) => (0 ≤ r.toInt ∧ r.toInt ≤ 1)) (fun (u : (Nat → Int32) × (Nat → Int32)) tZ => match u with | (obg0z, obg1z) => Bw D k (va_A [(ob, .inr (5, [.ref ob_0, .ref ob_1])), (ob_0, .inl (k 0, 6, .inl obg0)), (ob_1, .inl (k 0, 6, .inl obg1)), (tn, .inr (10, [.int tnv0, .int tnv1, .int tnv2, .ref tn_3, .ref tn_4, .ref tn_5, .ref tn_6, .int tnv7, .int tnv8, .ref tn_9, .ref tn_10, .int tnv11, .ref tn_12, .ref tn_13, .ref tn_14, .ref tn_15, .int tnv16, .ref tn_17, .ref tn_18, .ref tnt])), (tn_15, .inl (k 0, 6, .inl tng15))] sz) [(ob, .inr (5, [.ref ob_0, .ref ob_1])), (ob_0, .inl (k 0, 6, .inl obg0z)), (ob_1, .inl (k 0, 6, .inl obg1z)), (tn, .inr (10, [.int tnv0, .int tnv1, .int tnv2, .ref tn_3, .ref tn_4, .ref tn_5, .ref tn_6, .int tnv7, .int tnv8, .ref tn_9, .ref tn_10, .int tnv11, .ref tn_12, .ref tn_13, .ref tn_14, .ref tn_15, .int tnv16, .ref tn_17, .ref tn_18, .ref tnt])), (tn_15, .inl (k 0, 6, .inl tng15))] tZ) (va_A [(ob, .inr (5, [.ref ob_0, .ref ob_1])), (ob_0, .inl (k 0, 6, .inl obg0)), (ob_1, .inl (k 0, 6, .inl obg1)), (tn, .inr (10, [.int tnv0, .int tnv1, .int tnv2, .ref tn_3, .ref tn_4, .ref tn_5, .ref tn_6, .int tnv7, .int tnv8, .ref tn_9, .ref tn_10, .int tnv11, .ref tn_12, .ref tn_13, .ref tn_14, .ref tn_15, .int tnv16, .ref tn_17, .ref tn_18, .ref tnt])), (tn_15, .inl (k 0, 6, .inl tng15))] sz)) 0 0 (va_A [(ob, .inr (5, [.ref ob_0, .ref ob_1])), (ob_0, .inl (k 0, 6, .inl obg0)), (ob_1, .inl (k 0, 6, .inl obg1)), (tn, .inr (10, [.int tnv0, .int tnv1, .int tnv2, .ref tn_3, .ref tn_4, .ref tn_5, .ref tn_6, .int tnv7, .int tnv8, .ref tn_9, .ref tn_10, .int tnv11, .ref tn_12, .ref tn_13, .ref tn_14, .ref tn_15, .int tnv16, .ref tn_17, .ref tn_18, .ref tnt])), (tn_15, .inl (k 0, 6, .inl tng15))] sz) := by
  refine Met.ofW (cc := cX5_packs) (maxL := 7) (ret := (some .boolean)) (by decide +kernel) rfl ?_
  intro p e s m args below meth c s₁ B hml hv
  obtain ⟨rfl, hsz, hP, hK, hD0, hN⟩ := hv
  have hx := B.exec
  have hb := B.bytes
  have hr := B.returns
  have hts : ∀ w ∈ TT, w.before _ s = true := fun w h => atoms_spec (ws := ww yX5_packs cX5_packs 7 (some .boolean)) B.pre w (List.mem_cons_of_mem _ h)
  have hown : s.vm.findClass RX5 = some m.cls := findClass_of_methodNamed B.named
  have hlocks := B.notSynchronized
  subst hsz
  have hD := hD0.self (sz := s.heap.size)
  generalize hAe : va_A [(ob, .inr (5, [.ref ob_0, .ref ob_1])), (ob_0, .inl (k 0, 6, .inl obg0)), (ob_1, .inl (k 0, 6, .inl obg1)), (tn, .inr (10, [.int tnv0, .int tnv1, .int tnv2, .ref tn_3, .ref tn_4, .ref tn_5, .ref tn_6, .int tnv7, .int tnv8, .ref tn_9, .ref tn_10, .int tnv11, .ref tn_12, .ref tn_13, .ref tn_14, .ref tn_15, .int tnv16, .ref tn_17, .ref tn_18, .ref tnt])), (tn_15, .inl (k 0, 6, .inl tng15))] s.heap.size = A at hD ⊢
  have hA : ∀ q : Nat, s.heap.size ≤ q → A q := fun q h => by rw [← hAe]; exact Or.inr h
  have hS : va_S A s.heap s.heap [] := va_S.rf
  have hl := lv_entry ([.ref ob, .ref tn, .int 0, .int p2, .int p3]) (n := 7) (Nat.le_of_ble_eq_true rfl)
  rw [lg_entry_eq]
  generalize (lg_sl ([.ref ob, .ref tn, .int 0, .int p2, .int p3]) ++ List.replicate (7 - (lg_sl ([.ref ob, .ref tn, .int 0, .int p2, .int p3])).length) Slot.unset).toArray = ls at hl ⊢
  have hl : lv_has ls 7 [(0, .ref ob), (1, .ref tn), (2, .int 0), (3, .int p2), (4, .int p3)] := hl
  refine lv_iload_n hx hb dX5_packs_0 rfl (lv_at hl 2 rfl) ?_
  refine lv_aload_n hx hb dX5_packs_1 rfl (lv_at hl 1 rfl) ?_
  refine va_get (D := D) (ci := 10) (v := .int tnv11) (C := RX10) (T := TX10) (N := 20) hx hb hts iT_X10 hown hK hP 3 rfl rfl 11 (by decide) (hts _ tw_1_120) (fun _ h9 => h9) rfl dX5_packs_2 ?_
  refine lv_icmp_ge (tgt := 14) hx hb dX5_packs_5 (by decide) (fun h_1 => ?_) (fun h_1 => ?_)
  · skip
    have zh_1 : tnv11.toInt ≤ 0 := z_le h_1
    refine lv_iconst (v := 1) hx hb dX5_packs_14 (by decide) ?_
    obtain ⟨hP9, hD9⟩ := sub2 hP hD (ws' := [(ob, .inr (5, [.ref ob_0, .ref ob_1])), (ob_0, .inl (k 0, 6, .inl obg0)), (ob_1, .inl (k 0, 6, .inl obg1)), (tn, .inr (10, [.int tnv0, .int tnv1, .int tnv2, .ref tn_3, .ref tn_4, .ref tn_5, .ref tn_6, .int tnv7, .int tnv8, .ref tn_9, .ref tn_10, .int tnv11, .ref tn_12, .ref tn_13, .ref tn_14, .ref tn_15, .int tnv16, .ref tn_17, .ref tn_18, .ref tnt])), (tn_15, .inl (k 0, 6, .inl tng15))]) [0, 1, 2, 3, 4] (by decide +kernel) rfl
    exact W.zret (v := 1) hx hb hr (by decide) (fun tZ ht hW => ⟨⟨1, (obg0, obg1), rfl, (show 0 ≤ 1 ∧ 1 ≤ 1 from by omega), by rw [ht]; exact hP9, va_K.moved hW.alike hK, hD9⟩, hS.F ht⟩) hS.2.2 dX5_packs_15
  · skip
    have zh_1 : 0 < tnv11.toInt := z_nle h_1
    refine lv_iload_n hx hb dX5_packs_8 rfl (lv_at hl 2 rfl) ?_
    refine lv_bipush (v := 6) hx hb dX5_packs_9 (by decide) ?_
    refine lv_icmp_lt (tgt := 16) hx hb dX5_packs_11 (by decide) (fun _ => ?_) (fun c9 => absurd c9 (by decide))
    refine lv_aload_n hx hb dX5_packs_16 rfl (lv_at hl 1 rfl) ?_
    refine va_get (D := D) (ci := 10) (v := .ref tn_15) (C := RX10) (T := TX10) (N := 20) hx hb hts iT_X10 hown hK hP 3 rfl rfl 15 (by decide) (hts _ tw_1_139) (fun _ h9 => h9) rfl dX5_packs_17 ?_
    refine lv_iload_n hx hb dX5_packs_20 rfl (lv_at hl 2 rfl) ?_
    refine va_iald hx hb hK hP 4 0 rfl rfl (z_in (by decide) (by decide)) dX5_packs_21 ?_
    refine lv_topi (fun x_2 ex_2 => ?_)
    refine lv_istore (lv' := [(5, .int x_2), (0, .ref ob), (1, .ref tn), (2, .int 0), (3, .int p2), (4, .int p3)]) hx hb dX5_packs_22 hl (by decide) rfl (fun ls hl => ?_)
    refine lv_iconst (v := 0) hx hb dX5_packs_24 (by decide) ?_
    refine lv_istore (lv' := [(6, .int 0), (5, .int x_2), (0, .ref ob), (1, .ref tn), (2, .int 0), (3, .int p2), (4, .int p3)]) hx hb dX5_packs_25 hl (by decide) rfl (fun ls hl => ?_)
    refine loop_r (Wg := fun H locs ls => W p l e _ s m _ below meth c H locs _ _ _ (F0 m 27 ls [])) (fun n9 H locs ls => ∃ (L27l6 : Int32) (L27a1 : Nat → Int32) (L27a2 : Nat → Int32), n9 = (6 - L27l6.toInt).toNat ∧ (0 ≤ L27l6.toInt ∧ L27l6.toInt ≤ 6) ∧ va_P D vwCl [(ob, .inr (5, [.ref ob_0, .ref ob_1])), (ob_0, .inl (k 0, 6, .inl L27a1)), (ob_1, .inl (k 0, 6, .inl L27a2)), (tn, .inr (10, [.int tnv0, .int tnv1, .int tnv2, .ref tn_3, .ref tn_4, .ref tn_5, .ref tn_6, .int tnv7, .int tnv8, .ref tn_9, .ref tn_10, .int tnv11, .ref tn_12, .ref tn_13, .ref tn_14, .ref tn_15, .int tnv16, .ref tn_17, .ref tn_18, .ref tnt])), (tn_15, .inl (k 0, 6, .inl tng15))] H ∧ va_D A [(ob, .inr (5, [.ref ob_0, .ref ob_1])), (ob_0, .inl (k 0, 6, .inl L27a1)), (ob_1, .inl (k 0, 6, .inl L27a2)), (tn, .inr (10, [.int tnv0, .int tnv1, .int tnv2, .ref tn_3, .ref tn_4, .ref tn_5, .ref tn_6, .int tnv7, .int tnv8, .ref tn_9, .ref tn_10, .int tnv11, .ref tn_12, .ref tn_13, .ref tn_14, .ref tn_15, .int tnv16, .ref tn_17, .ref tn_18, .ref tnt])), (tn_15, .inl (k 0, 6, .inl tng15))] ∧ va_S A s.heap H locs ∧ lv_has ls 7 [(0, .ref ob), (1, .ref tn), (2, .int 0), (3, .int p2), (4, .int p3), (5, .int x_2), (6, .int L27l6)]) (fun n9 H locs ls hI ih_3 => ?_) _ _ _ _ ⟨0, obg0, obg1, rfl, (show 0 ≤ 0 ∧ 0 ≤ 6 from by omega), hP.sub (ws' := [(ob, .inr (5, [.ref ob_0, .ref ob_1])), (ob_0, .inl (k 0, 6, .inl obg0)), (ob_1, .inl (k 0, 6, .inl obg1)), (tn, .inr (10, [.int tnv0, .int tnv1, .int tnv2, .ref tn_3, .ref tn_4, .ref tn_5, .ref tn_6, .int tnv7, .int tnv8, .ref tn_9, .ref tn_10, .int tnv11, .ref tn_12, .ref tn_13, .ref tn_14, .ref tn_15, .int tnv16, .ref tn_17, .ref tn_18, .ref tnt])), (tn_15, .inl (k 0, 6, .inl tng15))]) [0, 1, 2, 3, 4] rfl, hD.sub (ws' := [(ob, .inr (5, [.ref ob_0, .ref ob_1])), (ob_0, .inl (k 0, 6, .inl obg0)), (ob_1, .inl (k 0, 6, .inl obg1)), (tn, .inr (10, [.int tnv0, .int tnv1, .int tnv2, .ref tn_3, .ref tn_4, .ref tn_5, .ref tn_6, .int tnv7, .int tnv8, .ref tn_9, .ref tn_10, .int tnv11, .ref tn_12, .ref tn_13, .ref tn_14, .ref tn_15, .int tnv16, .ref tn_17, .ref tn_18, .ref tnt])), (tn_15, .inl (k 0, 6, .inl tng15))]) [0, 1, 2, 3, 4] (by decide +kernel) rfl, hS, lv_sub hl [2, 3, 4, 5, 6, 1, 0] rfl⟩
    clear hP hD hS hl
    obtain ⟨L27l6, L27a1, L27a2, en_4, zL27l6, hP, hD, hS, hl⟩ := hI
    refine lv_iload hx hb dX5_packs_27 (lv_at hl 6 rfl) ?_
    refine lv_iload_n hx hb dX5_packs_29 rfl (lv_at hl 3 rfl) ?_
    refine lv_icmp_gt (tgt := 120) hx hb dX5_packs_30 (by decide) (fun h_5 => ?_) (fun h_5 => ?_)
    · skip
      have zh_5 : p2.toInt < L27l6.toInt := z_lt h_5
      refine lv_iconst (v := 0) hx hb dX5_packs_120 (by decide) ?_
      obtain ⟨hP9, hD9⟩ := sub2 hP hD (ws' := [(ob, .inr (5, [.ref ob_0, .ref ob_1])), (ob_0, .inl (k 0, 6, .inl L27a1)), (ob_1, .inl (k 0, 6, .inl L27a2)), (tn, .inr (10, [.int tnv0, .int tnv1, .int tnv2, .ref tn_3, .ref tn_4, .ref tn_5, .ref tn_6, .int tnv7, .int tnv8, .ref tn_9, .ref tn_10, .int tnv11, .ref tn_12, .ref tn_13, .ref tn_14, .ref tn_15, .int tnv16, .ref tn_17, .ref tn_18, .ref tnt])), (tn_15, .inl (k 0, 6, .inl tng15))]) [0, 1, 2, 3, 4] (by decide +kernel) rfl
      exact W.zret (v := 0) hx hb hr (by decide) (fun tZ ht hW => ⟨⟨0, (L27a1, L27a2), rfl, (show 0 ≤ 0 ∧ 0 ≤ 1 from by omega), by rw [ht]; exact hP9, va_K.moved hW.alike hK, hD9⟩, hS.F ht⟩) hS.2.2 dX5_packs_121
    · skip
      have zh_5 : L27l6.toInt ≤ p2.toInt := z_nlt h_5
      refine lv_iload hx hb dX5_packs_33 (lv_at hl 6 rfl) ?_
      refine lv_iload hx hb dX5_packs_35 (lv_at hl 4 rfl) ?_
      refine lv_icmp_ge (tgt := 120) hx hb dX5_packs_37 (by decide) (fun h_6 => ?_) (fun h_6 => ?_)
      · skip
        have zh_6 : p3.toInt ≤ L27l6.toInt := z_le h_6
        refine lv_iconst (v := 0) hx hb dX5_packs_120 (by decide) ?_
        obtain ⟨hP9, hD9⟩ := sub2 hP hD (ws' := [(ob, .inr (5, [.ref ob_0, .ref ob_1])), (ob_0, .inl (k 0, 6, .inl L27a1)), (ob_1, .inl (k 0, 6, .inl L27a2)), (tn, .inr (10, [.int tnv0, .int tnv1, .int tnv2, .ref tn_3, .ref tn_4, .ref tn_5, .ref tn_6, .int tnv7, .int tnv8, .ref tn_9, .ref tn_10, .int tnv11, .ref tn_12, .ref tn_13, .ref tn_14, .ref tn_15, .int tnv16, .ref tn_17, .ref tn_18, .ref tnt])), (tn_15, .inl (k 0, 6, .inl tng15))]) [0, 1, 2, 3, 4] (by decide +kernel) rfl
        exact W.zret (v := 0) hx hb hr (by decide) (fun tZ ht hW => ⟨⟨0, (L27a1, L27a2), rfl, (show 0 ≤ 0 ∧ 0 ≤ 1 from by omega), by rw [ht]; exact hP9, va_K.moved hW.alike hK, hD9⟩, hS.F ht⟩) hS.2.2 dX5_packs_121
      · skip
        have zh_6 : L27l6.toInt < p3.toInt := z_nle h_6
        refine lv_iload hx hb dX5_packs_40 (lv_at hl 6 rfl) ?_
        refine lv_bipush (v := 6) hx hb dX5_packs_42 (by decide) ?_
        refine lv_icmp_ge (tgt := 120) hx hb dX5_packs_44 (by decide) (fun h_7 => ?_) (fun h_7 => ?_)
        · skip
          have zh_7 : 6 ≤ L27l6.toInt := z_le h_7
          refine lv_iconst (v := 0) hx hb dX5_packs_120 (by decide) ?_
          obtain ⟨hP9, hD9⟩ := sub2 hP hD (ws' := [(ob, .inr (5, [.ref ob_0, .ref ob_1])), (ob_0, .inl (k 0, 6, .inl L27a1)), (ob_1, .inl (k 0, 6, .inl L27a2)), (tn, .inr (10, [.int tnv0, .int tnv1, .int tnv2, .ref tn_3, .ref tn_4, .ref tn_5, .ref tn_6, .int tnv7, .int tnv8, .ref tn_9, .ref tn_10, .int tnv11, .ref tn_12, .ref tn_13, .ref tn_14, .ref tn_15, .int tnv16, .ref tn_17, .ref tn_18, .ref tnt])), (tn_15, .inl (k 0, 6, .inl tng15))]) [0, 1, 2, 3, 4] (by decide +kernel) rfl
          exact W.zret (v := 0) hx hb hr (by decide) (fun tZ ht hW => ⟨⟨0, (L27a1, L27a2), rfl, (show 0 ≤ 0 ∧ 0 ≤ 1 from by omega), by rw [ht]; exact hP9, va_K.moved hW.alike hK, hD9⟩, hS.F ht⟩) hS.2.2 dX5_packs_121
        · skip
          have zh_7 : L27l6.toInt < 6 := z_nle h_7
          refine lv_aload_n hx hb dX5_packs_47 rfl (lv_at hl 0 rfl) ?_
          refine va_get (D := D) (ci := 5) (v := .ref ob_0) (C := RX5) (T := TX5) (N := 2) hx hb hts iT_X5 hown hK hP 0 rfl rfl 0 (by decide) (hts _ tw_2_148) (fun _ h9 => h9) rfl dX5_packs_48 ?_
          refine lv_iload hx hb dX5_packs_51 (lv_at hl 6 rfl) ?_
          refine va_iald hx hb hK hP 1 0 rfl rfl (z_in (by omega) (by omega)) dX5_packs_53 ?_
          refine lv_topi (fun x_8 ex_8 => ?_)
          refine lv_iload hx hb dX5_packs_54 (lv_at hl 5 rfl) ?_
          refine lv_icmp_lt (tgt := 114) hx hb dX5_packs_56 (by decide) (fun h_9 => ?_) (fun h_9 => ?_)
          · skip
            have zh_9 : x_8.toInt < x_2.toInt := z_lt h_9
            obtain ⟨x_10, ex_10⟩ : ∃ y : Int32, y = L27l6 + 1 := ⟨_, rfl⟩
            have zx_10 : x_10.toInt = L27l6.toInt + 1 := by rw [ex_10]; exact z_add rfl rfl (by omega) (by omega)
            refine lv_iinc (v := x_10) (lv' := [(6, .int x_10), (0, .ref ob), (1, .ref tn), (2, .int 0), (3, .int p2), (4, .int p3), (5, .int x_2)]) hx hb dX5_packs_114 hl (k := 6) rfl (by rw [ex_10]; rfl) (by decide) rfl (fun ls hl => ?_)
            refine lv_goto (tgt := 27) hx hb dX5_packs_117 (by decide) ?_
            exact ih_3 _ _ _ _ (by omega) ⟨x_10, L27a1, L27a2, rfl, (show 0 ≤ x_10.toInt ∧ x_10.toInt ≤ 6 from by omega), hP.sub (ws' := [(ob, .inr (5, [.ref ob_0, .ref ob_1])), (ob_0, .inl (k 0, 6, .inl L27a1)), (ob_1, .inl (k 0, 6, .inl L27a2)), (tn, .inr (10, [.int tnv0, .int tnv1, .int tnv2, .ref tn_3, .ref tn_4, .ref tn_5, .ref tn_6, .int tnv7, .int tnv8, .ref tn_9, .ref tn_10, .int tnv11, .ref tn_12, .ref tn_13, .ref tn_14, .ref tn_15, .int tnv16, .ref tn_17, .ref tn_18, .ref tnt])), (tn_15, .inl (k 0, 6, .inl tng15))]) [0, 1, 2, 3, 4] rfl, hD.sub (ws' := [(ob, .inr (5, [.ref ob_0, .ref ob_1])), (ob_0, .inl (k 0, 6, .inl L27a1)), (ob_1, .inl (k 0, 6, .inl L27a2)), (tn, .inr (10, [.int tnv0, .int tnv1, .int tnv2, .ref tn_3, .ref tn_4, .ref tn_5, .ref tn_6, .int tnv7, .int tnv8, .ref tn_9, .ref tn_10, .int tnv11, .ref tn_12, .ref tn_13, .ref tn_14, .ref tn_15, .int tnv16, .ref tn_17, .ref tn_18, .ref tnt])), (tn_15, .inl (k 0, 6, .inl tng15))]) [0, 1, 2, 3, 4] (by decide +kernel) rfl, hS, lv_sub hl [1, 2, 3, 4, 5, 6, 0] rfl⟩
          · skip
            have zh_9 : x_2.toInt ≤ x_8.toInt := z_nlt h_9
            refine lv_aload_n hx hb dX5_packs_59 rfl (lv_at hl 0 rfl) ?_
            refine va_get (D := D) (ci := 5) (v := .ref ob_0) (C := RX5) (T := TX5) (N := 2) hx hb hts iT_X5 hown hK hP 0 rfl rfl 0 (by decide) (hts _ tw_2_148) (fun _ h9 => h9) rfl dX5_packs_60 ?_
            refine lv_iload hx hb dX5_packs_63 (lv_at hl 6 rfl) ?_
            refine lv_dup2_11 hx hb dX5_packs_65 rfl rfl ?_
            refine va_iald hx hb hK hP 1 0 rfl rfl (z_in (by omega) (by omega)) dX5_packs_66 ?_
            refine lv_topi (fun x_11 ex_11 => ?_)
            obtain rfl : x_8 = x_11 := ex_8.trans ex_11.symm
            refine lv_iload hx hb dX5_packs_67 (lv_at hl 5 rfl) ?_
            refine lv_isub hx hb dX5_packs_69 ?_
            refine lv_topi (fun x_12 ex_12 => ?_)
            have zrx_8 := z_rng x_8
            have zrx_2 := z_rng x_2
            refine va_iast hx hb hK hP hD hS 1 0 rfl rfl (z_in (by omega) (by omega)) dX5_packs_70 (fun H locs hP hD hS => ?_)
            obtain ⟨g_13, eg_13⟩ : ∃ z : Nat → Int32, upd L27a1 L27l6.toNatClampNeg x_12 = z := ⟨_, rfl⟩
            have hP : va_P D vwCl [(ob, .inr (5, [.ref ob_0, .ref ob_1])), (ob_0, .inl (k 0, 6, .inl (upd L27a1 L27l6.toNatClampNeg x_12))), (ob_1, .inl (k 0, 6, .inl L27a2)), (tn, .inr (10, [.int tnv0, .int tnv1, .int tnv2, .ref tn_3, .ref tn_4, .ref tn_5, .ref tn_6, .int tnv7, .int tnv8, .ref tn_9, .ref tn_10, .int tnv11, .ref tn_12, .ref tn_13, .ref tn_14, .ref tn_15, .int tnv16, .ref tn_17, .ref tn_18, .ref tnt])), (tn_15, .inl (k 0, 6, .inl tng15))] H := hP
            have hD : va_D A [(ob, .inr (5, [.ref ob_0, .ref ob_1])), (ob_0, .inl (k 0, 6, .inl (upd L27a1 L27l6.toNatClampNeg x_12))), (ob_1, .inl (k 0, 6, .inl L27a2)), (tn, .inr (10, [.int tnv0, .int tnv1, .int tnv2, .ref tn_3, .ref tn_4, .ref tn_5, .ref tn_6, .int tnv7, .int tnv8, .ref tn_9, .ref tn_10, .int tnv11, .ref tn_12, .ref tn_13, .ref tn_14, .ref tn_15, .int tnv16, .ref tn_17, .ref tn_18, .ref tnt])), (tn_15, .inl (k 0, 6, .inl tng15))] := hD
            rw [eg_13] at hP hD
            refine lv_aload_n hx hb dX5_packs_71 rfl (lv_at hl 0 rfl) ?_
            refine va_get (D := D) (ci := 5) (v := .ref ob_1) (C := RX5) (T := TX5) (N := 2) hx hb hts iT_X5 hown hK hP 0 rfl rfl 1 (by decide) (hts _ tw_2_149) (fun _ h9 => h9) rfl dX5_packs_72 ?_
            refine lv_iload_n hx hb dX5_packs_75 rfl (lv_at hl 2 rfl) ?_
            refine lv_iload hx hb dX5_packs_76 (lv_at hl 6 rfl) ?_
            refine va_iast hx hb hK hP hD hS 2 0 rfl rfl (z_in (by decide) (by decide)) dX5_packs_78 (fun H locs hP hD hS => ?_)
            obtain ⟨g_14, eg_14⟩ : ∃ z : Nat → Int32, upd L27a2 0 L27l6 = z := ⟨_, rfl⟩
            have hP : va_P D vwCl [(ob, .inr (5, [.ref ob_0, .ref ob_1])), (ob_0, .inl (k 0, 6, .inl g_13)), (ob_1, .inl (k 0, 6, .inl (upd L27a2 0 L27l6))), (tn, .inr (10, [.int tnv0, .int tnv1, .int tnv2, .ref tn_3, .ref tn_4, .ref tn_5, .ref tn_6, .int tnv7, .int tnv8, .ref tn_9, .ref tn_10, .int tnv11, .ref tn_12, .ref tn_13, .ref tn_14, .ref tn_15, .int tnv16, .ref tn_17, .ref tn_18, .ref tnt])), (tn_15, .inl (k 0, 6, .inl tng15))] H := hP
            have hD : va_D A [(ob, .inr (5, [.ref ob_0, .ref ob_1])), (ob_0, .inl (k 0, 6, .inl g_13)), (ob_1, .inl (k 0, 6, .inl (upd L27a2 0 L27l6))), (tn, .inr (10, [.int tnv0, .int tnv1, .int tnv2, .ref tn_3, .ref tn_4, .ref tn_5, .ref tn_6, .int tnv7, .int tnv8, .ref tn_9, .ref tn_10, .int tnv11, .ref tn_12, .ref tn_13, .ref tn_14, .ref tn_15, .int tnv16, .ref tn_17, .ref tn_18, .ref tnt])), (tn_15, .inl (k 0, 6, .inl tng15))] := hD
            rw [eg_14] at hP hD
            refine lv_aload_n hx hb dX5_packs_79 rfl (lv_at hl 0 rfl) ?_
            refine lv_aload_n hx hb dX5_packs_80 rfl (lv_at hl 1 rfl) ?_
            refine lv_iload_n hx hb dX5_packs_81 rfl (lv_at hl 2 rfl) ?_
            refine lv_iconst (v := 1) hx hb dX5_packs_82 (by decide) ?_
            refine lv_iadd hx hb dX5_packs_83 ?_
            refine lv_topi (fun x_15 ex_15 => ?_)
            obtain rfl : x_15 = 1 := ex_15.trans (by decide)
            refine lv_iload_n hx hb dX5_packs_84 rfl (lv_at hl 3 rfl) ?_
            refine lv_iload hx hb dX5_packs_85 (lv_at hl 6 rfl) ?_
            refine lv_iconst (v := 1) hx hb dX5_packs_87 (by decide) ?_
            refine lv_iadd hx hb dX5_packs_88 ?_
            refine lv_topi (fun x_16 ex_16 => ?_)
            have zx_16 : x_16.toInt = L27l6.toInt + 1 := by rw [ex_16]; exact z_add rfl rfl (by omega) (by omega)
            obtain ⟨hPc, hDc, hFc⟩ := sub3 hP hD hS hA (ws' := []) [] (by decide +kernel) rfl
            refine va_calli (va_runS (As := [.int p2, .int x_16]) (rest := [.int 1, .ref tn, .ref ob]) ⟨hx, hb, hml, hown, hts⟩ (c_J9_max_7cf53 l D k p2 x_16 H.size) (va_cwS 2 hts (gS tw_5_84 tw_4_11 tw_1_14 tw_4_12) rfl rfl rfl hdS_J9_max_7cf53 ⟨Nat.le_of_ble_eq_true rfl, Nat.le_of_ble_eq_true rfl⟩) (cz_S hK hPc hDc hN [.int p2, .int x_16]) rfl rfl hl.1 rfl (lv_room (Nat.le_of_ble_eq_true rfl)) dX5_packs_89 ⟨Nat.le_of_ble_eq_true rfl, Nat.le_of_ble_eq_true rfl⟩) hS (fun q _ h => hFc q h) hFc (fun r_17 uZ tZ H1 locs ht hvm hw hB hz1 hk1 hS => ?_)
            obtain ⟨hP1, hK1, hD1⟩ := hB
            rw [ht] at hP1
            obtain ⟨hP, hD⟩ := va_join (wr := [(ob, .inr (5, [.ref ob_0, .ref ob_1])), (ob_0, .inl (k 0, 6, .inl g_13)), (ob_1, .inl (k 0, 6, .inl g_14)), (tn, .inr (10, [.int tnv0, .int tnv1, .int tnv2, .ref tn_3, .ref tn_4, .ref tn_5, .ref tn_6, .int tnv7, .int tnv8, .ref tn_9, .ref tn_10, .int tnv11, .ref tn_12, .ref tn_13, .ref tn_14, .ref tn_15, .int tnv16, .ref tn_17, .ref tn_18, .ref tnt])), (tn_15, .inl (k 0, 6, .inl tng15))]) (w1 := []) hP hD [] [0, 1, 2, 3, 4] rfl rfl (by decide +kernel) (by decide +kernel) hk1 hFc hP1 hD1
            clear hK1 hP1 hD1 hPc hDc hFc
            clear hk1 hz1 ht hvm
            have hP : va_P D vwCl [(ob, .inr (5, [.ref ob_0, .ref ob_1])), (ob_0, .inl (k 0, 6, .inl g_13)), (ob_1, .inl (k 0, 6, .inl g_14)), (tn, .inr (10, [.int tnv0, .int tnv1, .int tnv2, .ref tn_3, .ref tn_4, .ref tn_5, .ref tn_6, .int tnv7, .int tnv8, .ref tn_9, .ref tn_10, .int tnv11, .ref tn_12, .ref tn_13, .ref tn_14, .ref tn_15, .int tnv16, .ref tn_17, .ref tn_18, .ref tnt])), (tn_15, .inl (k 0, 6, .inl tng15))] H1 := hP
            have hD : va_D A [(ob, .inr (5, [.ref ob_0, .ref ob_1])), (ob_0, .inl (k 0, 6, .inl g_13)), (ob_1, .inl (k 0, 6, .inl g_14)), (tn, .inr (10, [.int tnv0, .int tnv1, .int tnv2, .ref tn_3, .ref tn_4, .ref tn_5, .ref tn_6, .int tnv7, .int tnv8, .ref tn_9, .ref tn_10, .int tnv11, .ref tn_12, .ref tn_13, .ref tn_14, .ref tn_15, .int tnv16, .ref tn_17, .ref tn_18, .ref tnt])), (tn_15, .inl (k 0, 6, .inl tng15))] := hD
            generalize H1 = H at hP hS ⊢
            have hw_18 : (p2.toInt ≤ r_17.toInt ∧ x_16.toInt ≤ r_17.toInt ∧ (r_17.toInt = p2.toInt ∨ r_17.toInt = x_16.toInt)) := hw
            have hw_19 := hw_18
            clear hw
            refine lv_iload hx hb dX5_packs_92 (lv_at hl 4 rfl) ?_
            obtain ⟨hPc, hDc, hFc⟩ := sub3 hP hD hS hA (ws' := [(ob, .inr (5, [.ref ob_0, .ref ob_1])), (ob_0, .inl (k 0, 6, .inl g_13)), (ob_1, .inl (k 0, 6, .inl g_14)), (tn, .inr (10, [.int tnv0, .int tnv1, .int tnv2, .ref tn_3, .ref tn_4, .ref tn_5, .ref tn_6, .int tnv7, .int tnv8, .ref tn_9, .ref tn_10, .int tnv11, .ref tn_12, .ref tn_13, .ref tn_14, .ref tn_15, .int tnv16, .ref tn_17, .ref tn_18, .ref tnt])), (tn_15, .inl (k 0, 6, .inl tng15))]) [0, 1, 2, 3, 4] (by decide +kernel) rfl
            refine va_calli (va_runV (C := RX5) (As := [.ref tn, .int 1, .int r_17, .int p3]) (rest := []) ⟨hx, hb, hml, hown, hts⟩ (c_X5_packs_5 l D k ob tn r_17 p3 ob_0 ob_1 g_13 g_14 tnv0 tnv1 tnv2 tn_3 tn_4 tn_5 tn_6 tnv7 tnv8 tn_9 tn_10 tnv11 tn_12 tn_13 tn_14 tn_15 tnv16 tn_17 tn_18 tnt tng15 H.size (show 0 ≤ tnv0.toInt ∧ tnv0.toInt ≤ 8 from by omega) (show 0 ≤ tnv2.toInt ∧ tnv2.toInt ≤ 10 from by omega) (show 0 ≤ tnv8.toInt ∧ tnv8.toInt ≤ 4 from by omega) (show 0 ≤ tnv11.toInt ∧ tnv11.toInt ≤ 6 from by omega) (show 0 ≤ tnv16.toInt ∧ tnv16.toInt ≤ 2 from by omega)) (cwV 4 hts (gV tw_5_80 tw_5_82 tw_p_31 tw_1_11 tw_5_83) rfl rfl rfl hdV_X5_packs ⟨Nat.le_of_ble_eq_true rfl, Nat.le_of_ble_eq_true rfl⟩) (cz_V hK hPc hDc hN (ci := 5) (q0 := 0) rfl rfl [.ref tn, .int 1, .int r_17, .int p3]) rfl rfl hl.1 rfl (lv_room (Nat.le_of_ble_eq_true rfl)) dX5_packs_94 ⟨Nat.le_of_ble_eq_true rfl, Nat.le_of_ble_eq_true rfl⟩) hS (fun q _ h => hFc q h) hFc (fun r_20 uZ tZ H1 locs ht hvm hw hB hz1 hk1 hS => ?_)
            obtain ⟨o_21, o_22⟩ := uZ
            obtain ⟨hP1, hK1, hD1⟩ := hB
            rw [ht] at hP1
            obtain ⟨hP, hD⟩ := va_join (wr := []) (w1 := [(ob, .inr (5, [.ref ob_0, .ref ob_1])), (ob_0, .inl (k 0, 6, .inl o_21)), (ob_1, .inl (k 0, 6, .inl o_22)), (tn, .inr (10, [.int tnv0, .int tnv1, .int tnv2, .ref tn_3, .ref tn_4, .ref tn_5, .ref tn_6, .int tnv7, .int tnv8, .ref tn_9, .ref tn_10, .int tnv11, .ref tn_12, .ref tn_13, .ref tn_14, .ref tn_15, .int tnv16, .ref tn_17, .ref tn_18, .ref tnt])), (tn_15, .inl (k 0, 6, .inl tng15))]) hP hD [0, 1, 2, 3, 4] [] rfl rfl (by decide +kernel) (by decide +kernel) hk1 hFc hP1 hD1
            clear hK1 hP1 hD1 hPc hDc hFc
            clear hk1 hz1 ht hvm
            have hP : va_P D vwCl [(ob, .inr (5, [.ref ob_0, .ref ob_1])), (ob_0, .inl (k 0, 6, .inl o_21)), (ob_1, .inl (k 0, 6, .inl o_22)), (tn, .inr (10, [.int tnv0, .int tnv1, .int tnv2, .ref tn_3, .ref tn_4, .ref tn_5, .ref tn_6, .int tnv7, .int tnv8, .ref tn_9, .ref tn_10, .int tnv11, .ref tn_12, .ref tn_13, .ref tn_14, .ref tn_15, .int tnv16, .ref tn_17, .ref tn_18, .ref tnt])), (tn_15, .inl (k 0, 6, .inl tng15))] H1 := hP
            have hD : va_D A [(ob, .inr (5, [.ref ob_0, .ref ob_1])), (ob_0, .inl (k 0, 6, .inl o_21)), (ob_1, .inl (k 0, 6, .inl o_22)), (tn, .inr (10, [.int tnv0, .int tnv1, .int tnv2, .ref tn_3, .ref tn_4, .ref tn_5, .ref tn_6, .int tnv7, .int tnv8, .ref tn_9, .ref tn_10, .int tnv11, .ref tn_12, .ref tn_13, .ref tn_14, .ref tn_15, .int tnv16, .ref tn_17, .ref tn_18, .ref tnt])), (tn_15, .inl (k 0, 6, .inl tng15))] := hD
            generalize H1 = H at hP hS ⊢
            have hw_23 : (0 ≤ r_20.toInt ∧ r_20.toInt ≤ 1) := hw
            have hw_24 := hw_23
            clear hw
            refine lv_if_eq (tgt := 102) hx hb dX5_packs_97 (by decide) (fun h_25 => ?_) (fun h_25 => ?_)
            · skip
              have zh_25 : r_20.toInt = 0 := z_eq h_25
              refine lv_aload_n hx hb dX5_packs_102 rfl (lv_at hl 0 rfl) ?_
              refine va_get (D := D) (ci := 5) (v := .ref ob_0) (C := RX5) (T := TX5) (N := 2) hx hb hts iT_X5 hown hK hP 0 rfl rfl 0 (by decide) (hts _ tw_2_148) (fun _ h9 => h9) rfl dX5_packs_103 ?_
              refine lv_iload hx hb dX5_packs_106 (lv_at hl 6 rfl) ?_
              refine lv_dup2_11 hx hb dX5_packs_108 rfl rfl ?_
              refine va_iald hx hb hK hP 1 0 rfl rfl (z_in (by omega) (by omega)) dX5_packs_109 ?_
              refine lv_topi (fun x_26 ex_26 => ?_)
              refine lv_iload hx hb dX5_packs_110 (lv_at hl 5 rfl) ?_
              refine lv_iadd hx hb dX5_packs_112 ?_
              refine lv_topi (fun x_27 ex_27 => ?_)
              have zrx_26 := z_rng x_26
              refine va_iast hx hb hK hP hD hS 1 0 rfl rfl (z_in (by omega) (by omega)) dX5_packs_113 (fun H locs hP hD hS => ?_)
              obtain ⟨g_28, eg_28⟩ : ∃ z : Nat → Int32, upd o_21 L27l6.toNatClampNeg x_27 = z := ⟨_, rfl⟩
              have hP : va_P D vwCl [(ob, .inr (5, [.ref ob_0, .ref ob_1])), (ob_0, .inl (k 0, 6, .inl (upd o_21 L27l6.toNatClampNeg x_27))), (ob_1, .inl (k 0, 6, .inl o_22)), (tn, .inr (10, [.int tnv0, .int tnv1, .int tnv2, .ref tn_3, .ref tn_4, .ref tn_5, .ref tn_6, .int tnv7, .int tnv8, .ref tn_9, .ref tn_10, .int tnv11, .ref tn_12, .ref tn_13, .ref tn_14, .ref tn_15, .int tnv16, .ref tn_17, .ref tn_18, .ref tnt])), (tn_15, .inl (k 0, 6, .inl tng15))] H := hP
              have hD : va_D A [(ob, .inr (5, [.ref ob_0, .ref ob_1])), (ob_0, .inl (k 0, 6, .inl (upd o_21 L27l6.toNatClampNeg x_27))), (ob_1, .inl (k 0, 6, .inl o_22)), (tn, .inr (10, [.int tnv0, .int tnv1, .int tnv2, .ref tn_3, .ref tn_4, .ref tn_5, .ref tn_6, .int tnv7, .int tnv8, .ref tn_9, .ref tn_10, .int tnv11, .ref tn_12, .ref tn_13, .ref tn_14, .ref tn_15, .int tnv16, .ref tn_17, .ref tn_18, .ref tnt])), (tn_15, .inl (k 0, 6, .inl tng15))] := hD
              rw [eg_28] at hP hD
              obtain ⟨x_29, ex_29⟩ : ∃ y : Int32, y = L27l6 + 1 := ⟨_, rfl⟩
              have zx_29 : x_29.toInt = L27l6.toInt + 1 := by rw [ex_29]; exact z_add rfl rfl (by omega) (by omega)
              refine lv_iinc (v := x_29) (lv' := [(6, .int x_29), (0, .ref ob), (1, .ref tn), (2, .int 0), (3, .int p2), (4, .int p3), (5, .int x_2)]) hx hb dX5_packs_114 hl (k := 6) rfl (by rw [ex_29]; rfl) (by decide) rfl (fun ls hl => ?_)
              refine lv_goto (tgt := 27) hx hb dX5_packs_117 (by decide) ?_
              exact ih_3 _ _ _ _ (by omega) ⟨x_29, g_28, o_22, rfl, (show 0 ≤ x_29.toInt ∧ x_29.toInt ≤ 6 from by omega), hP.sub (ws' := [(ob, .inr (5, [.ref ob_0, .ref ob_1])), (ob_0, .inl (k 0, 6, .inl g_28)), (ob_1, .inl (k 0, 6, .inl o_22)), (tn, .inr (10, [.int tnv0, .int tnv1, .int tnv2, .ref tn_3, .ref tn_4, .ref tn_5, .ref tn_6, .int tnv7, .int tnv8, .ref tn_9, .ref tn_10, .int tnv11, .ref tn_12, .ref tn_13, .ref tn_14, .ref tn_15, .int tnv16, .ref tn_17, .ref tn_18, .ref tnt])), (tn_15, .inl (k 0, 6, .inl tng15))]) [0, 1, 2, 3, 4] rfl, hD.sub (ws' := [(ob, .inr (5, [.ref ob_0, .ref ob_1])), (ob_0, .inl (k 0, 6, .inl g_28)), (ob_1, .inl (k 0, 6, .inl o_22)), (tn, .inr (10, [.int tnv0, .int tnv1, .int tnv2, .ref tn_3, .ref tn_4, .ref tn_5, .ref tn_6, .int tnv7, .int tnv8, .ref tn_9, .ref tn_10, .int tnv11, .ref tn_12, .ref tn_13, .ref tn_14, .ref tn_15, .int tnv16, .ref tn_17, .ref tn_18, .ref tnt])), (tn_15, .inl (k 0, 6, .inl tng15))]) [0, 1, 2, 3, 4] (by decide +kernel) rfl, hS, lv_sub hl [1, 2, 3, 4, 5, 6, 0] rfl⟩
            · skip
              have zh_25 : ¬ r_20.toInt = 0 := z_ne h_25
              refine lv_iconst (v := 1) hx hb dX5_packs_100 (by decide) ?_
              obtain ⟨hP9, hD9⟩ := sub2 hP hD (ws' := [(ob, .inr (5, [.ref ob_0, .ref ob_1])), (ob_0, .inl (k 0, 6, .inl o_21)), (ob_1, .inl (k 0, 6, .inl o_22)), (tn, .inr (10, [.int tnv0, .int tnv1, .int tnv2, .ref tn_3, .ref tn_4, .ref tn_5, .ref tn_6, .int tnv7, .int tnv8, .ref tn_9, .ref tn_10, .int tnv11, .ref tn_12, .ref tn_13, .ref tn_14, .ref tn_15, .int tnv16, .ref tn_17, .ref tn_18, .ref tnt])), (tn_15, .inl (k 0, 6, .inl tng15))]) [0, 1, 2, 3, 4] (by decide +kernel) rfl
              exact W.zret (v := 1) hx hb hr (by decide) (fun tZ ht hW => ⟨⟨1, (o_21, o_22), rfl, (show 0 ≤ 1 ∧ 1 ≤ 1 from by omega), by rw [ht]; exact hP9, va_K.moved hW.alike hK, hD9⟩, hS.F ht⟩) hS.2.2 dX5_packs_101
set_option maxHeartbeats 4000000 in
set_option maxRecDepth 100000 in
theorem c_X5_fewest (l : Launch) (D : va_G) (k : Nat → ClassId) (ob : Nat) (tn : Nat) (p1 : Int32) (ob_0 : Nat) (ob_1 : Nat) (obg0 : Nat → Int32) (obg1 : Nat → Int32) (tnv0 : Int32) (tnv1 : Int32) (tnv2 : Int32) (tn_3 : Nat) (tn_4 : Nat) (tn_5 : Nat) (tn_6 : Nat) (tnv7 : Int32) (tnv8 : Int32) (tn_9 : Nat) (tn_10 : Nat) (tnv11 : Int32) (tn_12 : Nat) (tn_13 : Nat) (tn_14 : Nat) (tn_15 : Nat) (tnv16 : Int32) (tn_17 : Nat) (tn_18 : Nat) (tnt : Nat) (tng15 : Nat → Int32) (sz : Nat) (h_p1 : 1 ≤ p1.toInt ∧ p1.toInt ≤ 99) (h_tnv0 : 0 ≤ tnv0.toInt ∧ tnv0.toInt ≤ 8) (h_tnv2 : 0 ≤ tnv2.toInt ∧ tnv2.toInt ≤ 10) (h_tnv8 : 0 ≤ tnv8.toInt ∧ tnv8.toInt ≤ 4) (h_tnv11 : 0 ≤ tnv11.toInt ∧ tnv11.toInt ≤ 6) (h_tnv16 : 0 ≤ tnv16.toInt ∧ tnv16.toInt ≤ 2) : Met l yX5_fewest (ww yX5_fewest cX5_fewest 4 (some .int)) ({ frames := 7, cells := 0, slots := 0, locals := 182 }) (Pre0 D k [(ob, .inr (5, [.ref ob_0, .ref ob_1])), (ob_0, .inl (k 0, 6, .inl obg0)), (ob_1, .inl (k 0, 6, .inl obg1)), (tn, .inr (10, [.int tnv0, .int tnv1, .int tnv2, .ref tn_3, .ref tn_4, .ref tn_5, .ref tn_6, .int tnv7, .int tnv8, .ref tn_9, .ref tn_10, .int tnv11, .ref tn_12, .ref tn_13, .ref tn_14, .ref tn_15, .int tnv16, .ref tn_17, .ref tn_18, .ref tnt])), (tn_15, .inl (k 0, 6, .inl tng15))] sz [.ref ob, .ref tn, .int p1]) (va_Qi (fun (r : Int32) (u : (Nat → Int32) × (Nat → Int32)) => match u with | (obg0z, obg1z) => ((-1) ≤ r.toInt ∧ r.toInt ≤ 6)) (fun (u : (Nat → Int32) × (Nat → Int32)) tZ => match u with | (obg0z, obg1z) => Bw D k (va_A [(ob, .inr (5, [.ref ob_0, .ref ob_1])), (ob_0, .inl (k 0, 6, .inl obg0)), (ob_1, .inl (k 0, 6, .inl obg1)), (tn, .inr (10, [.int tnv0, .int tnv1, .int tnv2, .ref tn_3, .ref tn_4, .ref tn_5, .ref tn_6, .int tnv7, .int tnv8, .ref tn_9, .ref tn_10, .int tnv11, .ref tn_12, .ref tn_13, .ref tn_14, .ref tn_15, .int tnv16, .ref tn_17, .ref tn_18, .ref tnt])), (tn_15, .inl (k 0, 6, .inl tng15))] sz) [(ob, .inr (5, [.ref ob_0, .ref ob_1])), (ob_0, .inl (k 0, 6, .inl obg0z)), (ob_1, .inl (k 0, 6, .inl obg1z)), (tn, .inr (10, [.int tnv0, .int tnv1, .int tnv2, .ref tn_3, .ref tn_4, .ref tn_5, .ref tn_6, .int tnv7, .int tnv8, .ref tn_9, .ref tn_10, .int tnv11, .ref tn_12, .ref tn_13, .ref tn_14, .ref tn_15, .int tnv16, .ref tn_17, .ref tn_18, .ref tnt])), (tn_15, .inl (k 0, 6, .inl tng15))] tZ) (va_A [(ob, .inr (5, [.ref ob_0, .ref ob_1])), (ob_0, .inl (k 0, 6, .inl obg0)), (ob_1, .inl (k 0, 6, .inl obg1)), (tn, .inr (10, [.int tnv0, .int tnv1, .int tnv2, .ref tn_3, .ref tn_4, .ref tn_5, .ref tn_6, .int tnv7, .int tnv8, .ref tn_9, .ref tn_10, .int tnv11, .ref tn_12, .ref tn_13, .ref tn_14, .ref tn_15, .int tnv16, .ref tn_17, .ref tn_18, .ref tnt])), (tn_15, .inl (k 0, 6, .inl tng15))] sz)) 0 0 (va_A [(ob, .inr (5, [.ref ob_0, .ref ob_1])), (ob_0, .inl (k 0, 6, .inl obg0)), (ob_1, .inl (k 0, 6, .inl obg1)), (tn, .inr (10, [.int tnv0, .int tnv1, .int tnv2, .ref tn_3, .ref tn_4, .ref tn_5, .ref tn_6, .int tnv7, .int tnv8, .ref tn_9, .ref tn_10, .int tnv11, .ref tn_12, .ref tn_13, .ref tn_14, .ref tn_15, .int tnv16, .ref tn_17, .ref tn_18, .ref tnt])), (tn_15, .inl (k 0, 6, .inl tng15))] sz) := by
  refine Met.ofW (cc := cX5_fewest) (maxL := 4) (ret := (some .int)) (by decide +kernel) rfl ?_
  intro p e s m args below meth c s₁ B hml hv
  obtain ⟨rfl, hsz, hP, hK, hD0, hN⟩ := hv
  have hx := B.exec
  have hb := B.bytes
  have hr := B.returns
  have hts : ∀ w ∈ TT, w.before _ s = true := fun w h => atoms_spec (ws := ww yX5_fewest cX5_fewest 4 (some .int)) B.pre w (List.mem_cons_of_mem _ h)
  have hown : s.vm.findClass RX5 = some m.cls := findClass_of_methodNamed B.named
  have hlocks := B.notSynchronized
  subst hsz
  have hD := hD0.self (sz := s.heap.size)
  generalize hAe : va_A [(ob, .inr (5, [.ref ob_0, .ref ob_1])), (ob_0, .inl (k 0, 6, .inl obg0)), (ob_1, .inl (k 0, 6, .inl obg1)), (tn, .inr (10, [.int tnv0, .int tnv1, .int tnv2, .ref tn_3, .ref tn_4, .ref tn_5, .ref tn_6, .int tnv7, .int tnv8, .ref tn_9, .ref tn_10, .int tnv11, .ref tn_12, .ref tn_13, .ref tn_14, .ref tn_15, .int tnv16, .ref tn_17, .ref tn_18, .ref tnt])), (tn_15, .inl (k 0, 6, .inl tng15))] s.heap.size = A at hD ⊢
  have hA : ∀ q : Nat, s.heap.size ≤ q → A q := fun q h => by rw [← hAe]; exact Or.inr h
  have hS : va_S A s.heap s.heap [] := va_S.rf
  have hl := lv_entry ([.ref ob, .ref tn, .int p1]) (n := 4) (Nat.le_of_ble_eq_true rfl)
  rw [lg_entry_eq]
  generalize (lg_sl ([.ref ob, .ref tn, .int p1]) ++ List.replicate (4 - (lg_sl ([.ref ob, .ref tn, .int p1])).length) Slot.unset).toArray = ls at hl ⊢
  have hl : lv_has ls 4 [(0, .ref ob), (1, .ref tn), (2, .int p1)] := hl
  refine lv_iconst (v := 0) hx hb dX5_fewest_0 (by decide) ?_
  refine lv_istore_n (lv' := [(3, .int 0), (0, .ref ob), (1, .ref tn), (2, .int p1)]) hx hb dX5_fewest_1 rfl hl (by decide) rfl (fun ls hl => ?_)
  refine loop_r (Wg := fun H locs ls => W p l e _ s m _ below meth c H locs _ _ _ (F0 m 2 ls [])) (fun n9 H locs ls => ∃ (L2l3 : Int32) (L2a1 : Nat → Int32) (L2a2 : Nat → Int32), n9 = (7 - L2l3.toInt).toNat ∧ (0 ≤ L2l3.toInt ∧ L2l3.toInt ≤ 7) ∧ va_P D vwCl [(ob, .inr (5, [.ref ob_0, .ref ob_1])), (ob_0, .inl (k 0, 6, .inl L2a1)), (ob_1, .inl (k 0, 6, .inl L2a2)), (tn, .inr (10, [.int tnv0, .int tnv1, .int tnv2, .ref tn_3, .ref tn_4, .ref tn_5, .ref tn_6, .int tnv7, .int tnv8, .ref tn_9, .ref tn_10, .int tnv11, .ref tn_12, .ref tn_13, .ref tn_14, .ref tn_15, .int tnv16, .ref tn_17, .ref tn_18, .ref tnt])), (tn_15, .inl (k 0, 6, .inl tng15))] H ∧ va_D A [(ob, .inr (5, [.ref ob_0, .ref ob_1])), (ob_0, .inl (k 0, 6, .inl L2a1)), (ob_1, .inl (k 0, 6, .inl L2a2)), (tn, .inr (10, [.int tnv0, .int tnv1, .int tnv2, .ref tn_3, .ref tn_4, .ref tn_5, .ref tn_6, .int tnv7, .int tnv8, .ref tn_9, .ref tn_10, .int tnv11, .ref tn_12, .ref tn_13, .ref tn_14, .ref tn_15, .int tnv16, .ref tn_17, .ref tn_18, .ref tnt])), (tn_15, .inl (k 0, 6, .inl tng15))] ∧ va_S A s.heap H locs ∧ lv_has ls 4 [(0, .ref ob), (1, .ref tn), (2, .int p1), (3, .int L2l3)]) (fun n9 H locs ls hI ih_1 => ?_) _ _ _ _ ⟨0, obg0, obg1, rfl, (show 0 ≤ 0 ∧ 0 ≤ 7 from by omega), hP.sub (ws' := [(ob, .inr (5, [.ref ob_0, .ref ob_1])), (ob_0, .inl (k 0, 6, .inl obg0)), (ob_1, .inl (k 0, 6, .inl obg1)), (tn, .inr (10, [.int tnv0, .int tnv1, .int tnv2, .ref tn_3, .ref tn_4, .ref tn_5, .ref tn_6, .int tnv7, .int tnv8, .ref tn_9, .ref tn_10, .int tnv11, .ref tn_12, .ref tn_13, .ref tn_14, .ref tn_15, .int tnv16, .ref tn_17, .ref tn_18, .ref tnt])), (tn_15, .inl (k 0, 6, .inl tng15))]) [0, 1, 2, 3, 4] rfl, hD.sub (ws' := [(ob, .inr (5, [.ref ob_0, .ref ob_1])), (ob_0, .inl (k 0, 6, .inl obg0)), (ob_1, .inl (k 0, 6, .inl obg1)), (tn, .inr (10, [.int tnv0, .int tnv1, .int tnv2, .ref tn_3, .ref tn_4, .ref tn_5, .ref tn_6, .int tnv7, .int tnv8, .ref tn_9, .ref tn_10, .int tnv11, .ref tn_12, .ref tn_13, .ref tn_14, .ref tn_15, .int tnv16, .ref tn_17, .ref tn_18, .ref tnt])), (tn_15, .inl (k 0, 6, .inl tng15))]) [0, 1, 2, 3, 4] (by decide +kernel) rfl, hS, lv_sub hl [1, 2, 3, 0] rfl⟩
  clear hP hD hS hl
  obtain ⟨L2l3, L2a1, L2a2, en_2, zL2l3, hP, hD, hS, hl⟩ := hI
  refine lv_iload_n hx hb dX5_fewest_2 rfl (lv_at hl 3 rfl) ?_
  refine lv_aload_n hx hb dX5_fewest_3 rfl (lv_at hl 1 rfl) ?_
  refine va_get (D := D) (ci := 10) (v := .int tnv11) (C := RX10) (T := TX10) (N := 20) hx hb hts iT_X10 hown hK hP 3 rfl rfl 11 (by decide) (hts _ tw_1_120) (fun _ h9 => h9) rfl dX5_fewest_4 ?_
  refine lv_icmp_gt (tgt := 37) hx hb dX5_fewest_7 (by decide) (fun h_3 => ?_) (fun h_3 => ?_)
  · skip
    have zh_3 : tnv11.toInt < L2l3.toInt := z_lt h_3
    refine lv_iconst (v := (-1)) hx hb dX5_fewest_37 (by decide) ?_
    obtain ⟨hP9, hD9⟩ := sub2 hP hD (ws' := [(ob, .inr (5, [.ref ob_0, .ref ob_1])), (ob_0, .inl (k 0, 6, .inl L2a1)), (ob_1, .inl (k 0, 6, .inl L2a2)), (tn, .inr (10, [.int tnv0, .int tnv1, .int tnv2, .ref tn_3, .ref tn_4, .ref tn_5, .ref tn_6, .int tnv7, .int tnv8, .ref tn_9, .ref tn_10, .int tnv11, .ref tn_12, .ref tn_13, .ref tn_14, .ref tn_15, .int tnv16, .ref tn_17, .ref tn_18, .ref tnt])), (tn_15, .inl (k 0, 6, .inl tng15))]) [0, 1, 2, 3, 4] (by decide +kernel) rfl
    exact W.iret (v := (-1)) hx hb hr (fun tZ ht hW => ⟨⟨(-1), (L2a1, L2a2), rfl, (show (-1) ≤ (-1) ∧ (-1) ≤ 6 from by omega), by rw [ht]; exact hP9, va_K.moved hW.alike hK, hD9⟩, hS.F ht⟩) hS.2.2 dX5_fewest_38
  · skip
    have zh_3 : L2l3.toInt ≤ tnv11.toInt := z_nlt h_3
    refine lv_aload_n hx hb dX5_fewest_10 rfl (lv_at hl 0 rfl) ?_
    refine va_get (D := D) (ci := 5) (v := .ref ob_0) (C := RX5) (T := TX5) (N := 2) hx hb hts iT_X5 hown hK hP 0 rfl rfl 0 (by decide) (hts _ tw_2_148) (fun _ h9 => h9) rfl dX5_fewest_11 ?_
    refine lv_iload_n hx hb dX5_fewest_14 rfl (lv_at hl 2 rfl) ?_
    obtain ⟨hPc, hDc, hFc⟩ := sub3 hP hD hS hA (ws' := [(ob_0, .inl (k 0, 6, .inl L2a1))]) [1] (by decide +kernel) rfl
    refine va_callv (va_runS (As := [.ref ob_0, .int p1]) (rest := []) ⟨hx, hb, hml, hown, hts⟩ (c_J7_fill_53178_2 l D k ob_0 p1 L2a1 H.size (show 1 ≤ p1.toInt ∧ p1.toInt ≤ 99 from by omega)) (va_cwS 2 hts (gS tw_5_79 tw_3_193 tw_1_19 tw_3_194) rfl rfl rfl hdS_J7_fill_53178 ⟨Nat.le_of_ble_eq_true rfl, Nat.le_of_ble_eq_true rfl⟩) (cz_S hK hPc hDc hN [.ref ob_0, .int p1]) rfl rfl hl.1 rfl (lv_room (Nat.le_of_ble_eq_true rfl)) dX5_fewest_15 ⟨Nat.le_of_ble_eq_true rfl, Nat.le_of_ble_eq_true rfl⟩) hS (fun q _ h => hFc q h) hFc (fun uZ tZ H1 locs ht hvm hw hB hz1 hk1 hS => ?_)
    obtain ⟨o_5, rfl⟩ : ∃ z, z = uZ := ⟨_, rfl⟩
    obtain ⟨hP1, hK1, hD1⟩ := hB
    rw [ht] at hP1
    obtain ⟨hP, hD⟩ := va_join (wr := [(ob, .inr (5, [.ref ob_0, .ref ob_1])), (ob_1, .inl (k 0, 6, .inl L2a2)), (tn, .inr (10, [.int tnv0, .int tnv1, .int tnv2, .ref tn_3, .ref tn_4, .ref tn_5, .ref tn_6, .int tnv7, .int tnv8, .ref tn_9, .ref tn_10, .int tnv11, .ref tn_12, .ref tn_13, .ref tn_14, .ref tn_15, .int tnv16, .ref tn_17, .ref tn_18, .ref tnt])), (tn_15, .inl (k 0, 6, .inl tng15))]) (w1 := [(ob_0, .inl (k 0, 6, .inl o_5))]) hP hD [1] [0, 2, 3, 4] rfl rfl (by decide +kernel) (by decide +kernel) hk1 hFc hP1 hD1
    clear hK1 hP1 hD1 hPc hDc hFc
    clear hk1 hz1 ht hvm
    have hP : va_P D vwCl [(ob, .inr (5, [.ref ob_0, .ref ob_1])), (ob_1, .inl (k 0, 6, .inl L2a2)), (tn, .inr (10, [.int tnv0, .int tnv1, .int tnv2, .ref tn_3, .ref tn_4, .ref tn_5, .ref tn_6, .int tnv7, .int tnv8, .ref tn_9, .ref tn_10, .int tnv11, .ref tn_12, .ref tn_13, .ref tn_14, .ref tn_15, .int tnv16, .ref tn_17, .ref tn_18, .ref tnt])), (tn_15, .inl (k 0, 6, .inl tng15)), (ob_0, .inl (k 0, 6, .inl o_5))] H1 := hP
    have hD : va_D A [(ob, .inr (5, [.ref ob_0, .ref ob_1])), (ob_1, .inl (k 0, 6, .inl L2a2)), (tn, .inr (10, [.int tnv0, .int tnv1, .int tnv2, .ref tn_3, .ref tn_4, .ref tn_5, .ref tn_6, .int tnv7, .int tnv8, .ref tn_9, .ref tn_10, .int tnv11, .ref tn_12, .ref tn_13, .ref tn_14, .ref tn_15, .int tnv16, .ref tn_17, .ref tn_18, .ref tnt])), (tn_15, .inl (k 0, 6, .inl tng15)), (ob_0, .inl (k 0, 6, .inl o_5))] := hD
    generalize H1 = H at hP hS ⊢
    have hw_6 : (PR 6 1 0 1 99 o_5) := hw
    have hw_7 := hw_6
    clear hw
    refine lv_aload_n hx hb dX5_fewest_18 rfl (lv_at hl 0 rfl) ?_
    refine lv_aload_n hx hb dX5_fewest_19 rfl (lv_at hl 1 rfl) ?_
    refine lv_iconst (v := 0) hx hb dX5_fewest_20 (by decide) ?_
    refine lv_iconst (v := 0) hx hb dX5_fewest_21 (by decide) ?_
    refine lv_iload_n hx hb dX5_fewest_22 rfl (lv_at hl 3 rfl) ?_
    obtain ⟨hPc, hDc, hFc⟩ := sub3 hP hD hS hA (ws' := [(ob, .inr (5, [.ref ob_0, .ref ob_1])), (ob_0, .inl (k 0, 6, .inl o_5)), (ob_1, .inl (k 0, 6, .inl L2a2)), (tn, .inr (10, [.int tnv0, .int tnv1, .int tnv2, .ref tn_3, .ref tn_4, .ref tn_5, .ref tn_6, .int tnv7, .int tnv8, .ref tn_9, .ref tn_10, .int tnv11, .ref tn_12, .ref tn_13, .ref tn_14, .ref tn_15, .int tnv16, .ref tn_17, .ref tn_18, .ref tnt])), (tn_15, .inl (k 0, 6, .inl tng15))]) [0, 4, 1, 2, 3] (by decide +kernel) rfl
    refine va_calli (va_runV (C := RX5) (As := [.ref tn, .int 0, .int 0, .int L2l3]) (rest := []) ⟨hx, hb, hml, hown, hts⟩ (c_X5_packs_6 l D k ob tn 0 L2l3 ob_0 ob_1 o_5 L2a2 tnv0 tnv1 tnv2 tn_3 tn_4 tn_5 tn_6 tnv7 tnv8 tn_9 tn_10 tnv11 tn_12 tn_13 tn_14 tn_15 tnv16 tn_17 tn_18 tnt tng15 H.size (show 0 ≤ tnv0.toInt ∧ tnv0.toInt ≤ 8 from by omega) (show 0 ≤ tnv2.toInt ∧ tnv2.toInt ≤ 10 from by omega) (show 0 ≤ tnv8.toInt ∧ tnv8.toInt ≤ 4 from by omega) (show 0 ≤ tnv11.toInt ∧ tnv11.toInt ≤ 6 from by omega) (show 0 ≤ tnv16.toInt ∧ tnv16.toInt ≤ 2 from by omega)) (cwV 4 hts (gV tw_5_80 tw_5_82 tw_p_31 tw_1_11 tw_5_83) rfl rfl rfl hdV_X5_packs ⟨Nat.le_of_ble_eq_true rfl, Nat.le_of_ble_eq_true rfl⟩) (cz_V hK hPc hDc hN (ci := 5) (q0 := 0) rfl rfl [.ref tn, .int 0, .int 0, .int L2l3]) rfl rfl hl.1 rfl (lv_room (Nat.le_of_ble_eq_true rfl)) dX5_fewest_23 ⟨Nat.le_of_ble_eq_true rfl, Nat.le_of_ble_eq_true rfl⟩) hS (fun q _ h => hFc q h) hFc (fun r_8 uZ tZ H1 locs ht hvm hw hB hz1 hk1 hS => ?_)
    obtain ⟨o_9, o_10⟩ := uZ
    obtain ⟨hP1, hK1, hD1⟩ := hB
    rw [ht] at hP1
    obtain ⟨hP, hD⟩ := va_join (wr := []) (w1 := [(ob, .inr (5, [.ref ob_0, .ref ob_1])), (ob_0, .inl (k 0, 6, .inl o_9)), (ob_1, .inl (k 0, 6, .inl o_10)), (tn, .inr (10, [.int tnv0, .int tnv1, .int tnv2, .ref tn_3, .ref tn_4, .ref tn_5, .ref tn_6, .int tnv7, .int tnv8, .ref tn_9, .ref tn_10, .int tnv11, .ref tn_12, .ref tn_13, .ref tn_14, .ref tn_15, .int tnv16, .ref tn_17, .ref tn_18, .ref tnt])), (tn_15, .inl (k 0, 6, .inl tng15))]) hP hD [0, 4, 1, 2, 3] [] rfl rfl (by decide +kernel) (by decide +kernel) hk1 hFc hP1 hD1
    clear hK1 hP1 hD1 hPc hDc hFc
    clear hk1 hz1 ht hvm
    have hP : va_P D vwCl [(ob, .inr (5, [.ref ob_0, .ref ob_1])), (ob_0, .inl (k 0, 6, .inl o_9)), (ob_1, .inl (k 0, 6, .inl o_10)), (tn, .inr (10, [.int tnv0, .int tnv1, .int tnv2, .ref tn_3, .ref tn_4, .ref tn_5, .ref tn_6, .int tnv7, .int tnv8, .ref tn_9, .ref tn_10, .int tnv11, .ref tn_12, .ref tn_13, .ref tn_14, .ref tn_15, .int tnv16, .ref tn_17, .ref tn_18, .ref tnt])), (tn_15, .inl (k 0, 6, .inl tng15))] H1 := hP
    have hD : va_D A [(ob, .inr (5, [.ref ob_0, .ref ob_1])), (ob_0, .inl (k 0, 6, .inl o_9)), (ob_1, .inl (k 0, 6, .inl o_10)), (tn, .inr (10, [.int tnv0, .int tnv1, .int tnv2, .ref tn_3, .ref tn_4, .ref tn_5, .ref tn_6, .int tnv7, .int tnv8, .ref tn_9, .ref tn_10, .int tnv11, .ref tn_12, .ref tn_13, .ref tn_14, .ref tn_15, .int tnv16, .ref tn_17, .ref tn_18, .ref tnt])), (tn_15, .inl (k 0, 6, .inl tng15))] := hD
    generalize H1 = H at hP hS ⊢
    have hw_11 : (0 ≤ r_8.toInt ∧ r_8.toInt ≤ 1) := hw
    have hw_12 := hw_11
    clear hw
    refine lv_if_eq (tgt := 31) hx hb dX5_fewest_26 (by decide) (fun h_13 => ?_) (fun h_13 => ?_)
    · skip
      have zh_13 : r_8.toInt = 0 := z_eq h_13
      obtain ⟨x_14, ex_14⟩ : ∃ y : Int32, y = L2l3 + 1 := ⟨_, rfl⟩
      have zx_14 : x_14.toInt = L2l3.toInt + 1 := by rw [ex_14]; exact z_add rfl rfl (by omega) (by omega)
      refine lv_iinc (v := x_14) (lv' := [(3, .int x_14), (0, .ref ob), (1, .ref tn), (2, .int p1)]) hx hb dX5_fewest_31 hl (k := 3) rfl (by rw [ex_14]; rfl) (by decide) rfl (fun ls hl => ?_)
      refine lv_goto (tgt := 2) hx hb dX5_fewest_34 (by decide) ?_
      exact ih_1 _ _ _ _ (by omega) ⟨x_14, o_9, o_10, rfl, (show 0 ≤ x_14.toInt ∧ x_14.toInt ≤ 7 from by omega), hP.sub (ws' := [(ob, .inr (5, [.ref ob_0, .ref ob_1])), (ob_0, .inl (k 0, 6, .inl o_9)), (ob_1, .inl (k 0, 6, .inl o_10)), (tn, .inr (10, [.int tnv0, .int tnv1, .int tnv2, .ref tn_3, .ref tn_4, .ref tn_5, .ref tn_6, .int tnv7, .int tnv8, .ref tn_9, .ref tn_10, .int tnv11, .ref tn_12, .ref tn_13, .ref tn_14, .ref tn_15, .int tnv16, .ref tn_17, .ref tn_18, .ref tnt])), (tn_15, .inl (k 0, 6, .inl tng15))]) [0, 1, 2, 3, 4] rfl, hD.sub (ws' := [(ob, .inr (5, [.ref ob_0, .ref ob_1])), (ob_0, .inl (k 0, 6, .inl o_9)), (ob_1, .inl (k 0, 6, .inl o_10)), (tn, .inr (10, [.int tnv0, .int tnv1, .int tnv2, .ref tn_3, .ref tn_4, .ref tn_5, .ref tn_6, .int tnv7, .int tnv8, .ref tn_9, .ref tn_10, .int tnv11, .ref tn_12, .ref tn_13, .ref tn_14, .ref tn_15, .int tnv16, .ref tn_17, .ref tn_18, .ref tnt])), (tn_15, .inl (k 0, 6, .inl tng15))]) [0, 1, 2, 3, 4] (by decide +kernel) rfl, hS, lv_sub hl [1, 2, 3, 0] rfl⟩
    · skip
      have zh_13 : ¬ r_8.toInt = 0 := z_ne h_13
      refine lv_iload_n hx hb dX5_fewest_29 rfl (lv_at hl 3 rfl) ?_
      obtain ⟨hP9, hD9⟩ := sub2 hP hD (ws' := [(ob, .inr (5, [.ref ob_0, .ref ob_1])), (ob_0, .inl (k 0, 6, .inl o_9)), (ob_1, .inl (k 0, 6, .inl o_10)), (tn, .inr (10, [.int tnv0, .int tnv1, .int tnv2, .ref tn_3, .ref tn_4, .ref tn_5, .ref tn_6, .int tnv7, .int tnv8, .ref tn_9, .ref tn_10, .int tnv11, .ref tn_12, .ref tn_13, .ref tn_14, .ref tn_15, .int tnv16, .ref tn_17, .ref tn_18, .ref tnt])), (tn_15, .inl (k 0, 6, .inl tng15))]) [0, 1, 2, 3, 4] (by decide +kernel) rfl
      exact W.iret (v := L2l3) hx hb hr (fun tZ ht hW => ⟨⟨L2l3, (o_9, o_10), rfl, (show (-1) ≤ L2l3.toInt ∧ L2l3.toInt ≤ 6 from by omega), by rw [ht]; exact hP9, va_K.moved hW.alike hK, hD9⟩, hS.F ht⟩) hS.2.2 dX5_fewest_30
set_option maxHeartbeats 4000000 in
set_option maxRecDepth 100000 in
theorem c_X5_housesIn (l : Launch) (D : va_G) (k : Nat → ClassId) (ob : Nat) (tn : Nat) (p1 : Int32) (ob_0 : Nat) (ob_1 : Nat) (obg1 : Nat → Int32) (tnv0 : Int32) (tnv1 : Int32) (tnv2 : Int32) (tn_3 : Nat) (tn_4 : Nat) (tn_5 : Nat) (tn_6 : Nat) (tnv7 : Int32) (tnv8 : Int32) (tn_9 : Nat) (tn_10 : Nat) (tnv11 : Int32) (tn_12 : Nat) (tn_13 : Nat) (tn_14 : Nat) (tn_15 : Nat) (tnv16 : Int32) (tn_17 : Nat) (tn_18 : Nat) (tnt : Nat) (sz : Nat) (h_tnv0 : 0 ≤ tnv0.toInt ∧ tnv0.toInt ≤ 8) (h_tnv2 : 0 ≤ tnv2.toInt ∧ tnv2.toInt ≤ 10) (h_tnv8 : 0 ≤ tnv8.toInt ∧ tnv8.toInt ≤ 4) (h_tnv11 : 0 ≤ tnv11.toInt ∧ tnv11.toInt ≤ 6) (h_tnv16 : 0 ≤ tnv16.toInt ∧ tnv16.toInt ≤ 2) : Met l yX5_housesIn (ww yX5_housesIn cX5_housesIn 5 (some .int)) ({ frames := 0, cells := 0, slots := 0, locals := 0 }) (Pre0 D k [(ob, .inr (5, [.ref ob_0, .ref ob_1])), (ob_1, .inl (k 0, 6, .inl obg1)), (tn, .inr (10, [.int tnv0, .int tnv1, .int tnv2, .ref tn_3, .ref tn_4, .ref tn_5, .ref tn_6, .int tnv7, .int tnv8, .ref tn_9, .ref tn_10, .int tnv11, .ref tn_12, .ref tn_13, .ref tn_14, .ref tn_15, .int tnv16, .ref tn_17, .ref tn_18, .ref tnt]))] sz [.ref ob, .ref tn, .int p1]) (va_Qi (fun (r : Int32) (_ : Unit) => (0 ≤ r.toInt ∧ r.toInt ≤ 1023)) (fun (_ : Unit) tZ => Bw D k (va_A [(ob, .inr (5, [.ref ob_0, .ref ob_1])), (ob_1, .inl (k 0, 6, .inl obg1)), (tn, .inr (10, [.int tnv0, .int tnv1, .int tnv2, .ref tn_3, .ref tn_4, .ref tn_5, .ref tn_6, .int tnv7, .int tnv8, .ref tn_9, .ref tn_10, .int tnv11, .ref tn_12, .ref tn_13, .ref tn_14, .ref tn_15, .int tnv16, .ref tn_17, .ref tn_18, .ref tnt]))] sz) [(ob, .inr (5, [.ref ob_0, .ref ob_1])), (ob_1, .inl (k 0, 6, .inl obg1)), (tn, .inr (10, [.int tnv0, .int tnv1, .int tnv2, .ref tn_3, .ref tn_4, .ref tn_5, .ref tn_6, .int tnv7, .int tnv8, .ref tn_9, .ref tn_10, .int tnv11, .ref tn_12, .ref tn_13, .ref tn_14, .ref tn_15, .int tnv16, .ref tn_17, .ref tn_18, .ref tnt]))] tZ) (va_A [(ob, .inr (5, [.ref ob_0, .ref ob_1])), (ob_1, .inl (k 0, 6, .inl obg1)), (tn, .inr (10, [.int tnv0, .int tnv1, .int tnv2, .ref tn_3, .ref tn_4, .ref tn_5, .ref tn_6, .int tnv7, .int tnv8, .ref tn_9, .ref tn_10, .int tnv11, .ref tn_12, .ref tn_13, .ref tn_14, .ref tn_15, .int tnv16, .ref tn_17, .ref tn_18, .ref tnt]))] sz)) 0 0 (va_A [(ob, .inr (5, [.ref ob_0, .ref ob_1])), (ob_1, .inl (k 0, 6, .inl obg1)), (tn, .inr (10, [.int tnv0, .int tnv1, .int tnv2, .ref tn_3, .ref tn_4, .ref tn_5, .ref tn_6, .int tnv7, .int tnv8, .ref tn_9, .ref tn_10, .int tnv11, .ref tn_12, .ref tn_13, .ref tn_14, .ref tn_15, .int tnv16, .ref tn_17, .ref tn_18, .ref tnt]))] sz) := by
  refine Met.ofW (cc := cX5_housesIn) (maxL := 5) (ret := (some .int)) (by decide +kernel) rfl ?_
  intro p e s m args below meth c s₁ B hml hv
  obtain ⟨rfl, hsz, hP, hK, hD0, hN⟩ := hv
  have hx := B.exec
  have hb := B.bytes
  have hr := B.returns
  have hts : ∀ w ∈ TT, w.before _ s = true := fun w h => atoms_spec (ws := ww yX5_housesIn cX5_housesIn 5 (some .int)) B.pre w (List.mem_cons_of_mem _ h)
  have hown : s.vm.findClass RX5 = some m.cls := findClass_of_methodNamed B.named
  have hlocks := B.notSynchronized
  subst hsz
  have hD := hD0.self (sz := s.heap.size)
  generalize hAe : va_A [(ob, .inr (5, [.ref ob_0, .ref ob_1])), (ob_1, .inl (k 0, 6, .inl obg1)), (tn, .inr (10, [.int tnv0, .int tnv1, .int tnv2, .ref tn_3, .ref tn_4, .ref tn_5, .ref tn_6, .int tnv7, .int tnv8, .ref tn_9, .ref tn_10, .int tnv11, .ref tn_12, .ref tn_13, .ref tn_14, .ref tn_15, .int tnv16, .ref tn_17, .ref tn_18, .ref tnt]))] s.heap.size = A at hD ⊢
  have hA : ∀ q : Nat, s.heap.size ≤ q → A q := fun q h => by rw [← hAe]; exact Or.inr h
  have hS : va_S A s.heap s.heap [] := va_S.rf
  have hl := lv_entry ([.ref ob, .ref tn, .int p1]) (n := 5) (Nat.le_of_ble_eq_true rfl)
  rw [lg_entry_eq]
  generalize (lg_sl ([.ref ob, .ref tn, .int p1]) ++ List.replicate (5 - (lg_sl ([.ref ob, .ref tn, .int p1])).length) Slot.unset).toArray = ls at hl ⊢
  have hl : lv_has ls 5 [(0, .ref ob), (1, .ref tn), (2, .int p1)] := hl
  refine lv_iconst (v := 0) hx hb dX5_housesIn_0 (by decide) ?_
  refine lv_istore_n (lv' := [(3, .int 0), (0, .ref ob), (1, .ref tn), (2, .int p1)]) hx hb dX5_housesIn_1 rfl hl (by decide) rfl (fun ls hl => ?_)
  refine lv_iconst (v := 0) hx hb dX5_housesIn_2 (by decide) ?_
  refine lv_istore (lv' := [(4, .int 0), (3, .int 0), (0, .ref ob), (1, .ref tn), (2, .int p1)]) hx hb dX5_housesIn_3 hl (by decide) rfl (fun ls hl => ?_)
  refine loop_r (Wg := fun H locs ls => W p l e _ s m _ below meth c H locs _ _ _ (F0 m 5 ls [])) (fun n9 H locs ls => ∃ (L5l3 : Int32) (L5l4 : Int32), n9 = (6 - L5l4.toInt).toNat ∧ (0 ≤ L5l3.toInt ∧ L5l3.toInt ≤ 1023) ∧ (0 ≤ L5l4.toInt ∧ L5l4.toInt ≤ 6) ∧ va_P D vwCl [(ob, .inr (5, [.ref ob_0, .ref ob_1])), (ob_1, .inl (k 0, 6, .inl obg1)), (tn, .inr (10, [.int tnv0, .int tnv1, .int tnv2, .ref tn_3, .ref tn_4, .ref tn_5, .ref tn_6, .int tnv7, .int tnv8, .ref tn_9, .ref tn_10, .int tnv11, .ref tn_12, .ref tn_13, .ref tn_14, .ref tn_15, .int tnv16, .ref tn_17, .ref tn_18, .ref tnt]))] H ∧ va_D A [(ob, .inr (5, [.ref ob_0, .ref ob_1])), (ob_1, .inl (k 0, 6, .inl obg1)), (tn, .inr (10, [.int tnv0, .int tnv1, .int tnv2, .ref tn_3, .ref tn_4, .ref tn_5, .ref tn_6, .int tnv7, .int tnv8, .ref tn_9, .ref tn_10, .int tnv11, .ref tn_12, .ref tn_13, .ref tn_14, .ref tn_15, .int tnv16, .ref tn_17, .ref tn_18, .ref tnt]))] ∧ va_S A s.heap H locs ∧ lv_has ls 5 [(0, .ref ob), (1, .ref tn), (2, .int p1), (3, .int L5l3), (4, .int L5l4)]) (fun n9 H locs ls hI ih_1 => ?_) _ _ _ _ ⟨0, 0, rfl, (show 0 ≤ 0 ∧ 0 ≤ 1023 from by omega), (show 0 ≤ 0 ∧ 0 ≤ 6 from by omega), hP.sub (ws' := [(ob, .inr (5, [.ref ob_0, .ref ob_1])), (ob_1, .inl (k 0, 6, .inl obg1)), (tn, .inr (10, [.int tnv0, .int tnv1, .int tnv2, .ref tn_3, .ref tn_4, .ref tn_5, .ref tn_6, .int tnv7, .int tnv8, .ref tn_9, .ref tn_10, .int tnv11, .ref tn_12, .ref tn_13, .ref tn_14, .ref tn_15, .int tnv16, .ref tn_17, .ref tn_18, .ref tnt]))]) [0, 1, 2] rfl, hD.sub (ws' := [(ob, .inr (5, [.ref ob_0, .ref ob_1])), (ob_1, .inl (k 0, 6, .inl obg1)), (tn, .inr (10, [.int tnv0, .int tnv1, .int tnv2, .ref tn_3, .ref tn_4, .ref tn_5, .ref tn_6, .int tnv7, .int tnv8, .ref tn_9, .ref tn_10, .int tnv11, .ref tn_12, .ref tn_13, .ref tn_14, .ref tn_15, .int tnv16, .ref tn_17, .ref tn_18, .ref tnt]))]) [0, 1, 2] (by decide +kernel) rfl, hS, lv_sub hl [2, 3, 4, 1, 0] rfl⟩
  clear hP hD hS hl
  obtain ⟨L5l3, L5l4, en_2, zL5l3, zL5l4, hP, hD, hS, hl⟩ := hI
  refine lv_iload hx hb dX5_housesIn_5 (lv_at hl 4 rfl) ?_
  refine lv_aload_n hx hb dX5_housesIn_7 rfl (lv_at hl 1 rfl) ?_
  refine va_get (D := D) (ci := 10) (v := .int tnv11) (C := RX10) (T := TX10) (N := 20) hx hb hts iT_X10 hown hK hP 2 rfl rfl 11 (by decide) (hts _ tw_1_120) (fun _ h9 => h9) rfl dX5_housesIn_8 ?_
  refine lv_icmp_ge (tgt := 38) hx hb dX5_housesIn_11 (by decide) (fun h_3 => ?_) (fun h_3 => ?_)
  · skip
    have zh_3 : tnv11.toInt ≤ L5l4.toInt := z_le h_3
    refine lv_iload_n hx hb dX5_housesIn_38 rfl (lv_at hl 3 rfl) ?_
    obtain ⟨hP9, hD9⟩ := sub2 hP hD (ws' := [(ob, .inr (5, [.ref ob_0, .ref ob_1])), (ob_1, .inl (k 0, 6, .inl obg1)), (tn, .inr (10, [.int tnv0, .int tnv1, .int tnv2, .ref tn_3, .ref tn_4, .ref tn_5, .ref tn_6, .int tnv7, .int tnv8, .ref tn_9, .ref tn_10, .int tnv11, .ref tn_12, .ref tn_13, .ref tn_14, .ref tn_15, .int tnv16, .ref tn_17, .ref tn_18, .ref tnt]))]) [0, 1, 2] (by decide +kernel) rfl
    exact W.iret (v := L5l3) hx hb hr (fun tZ ht hW => ⟨⟨L5l3, (), rfl, (show 0 ≤ L5l3.toInt ∧ L5l3.toInt ≤ 1023 from by omega), by rw [ht]; exact hP9, va_K.moved hW.alike hK, hD9⟩, hS.F ht⟩) hS.2.2 dX5_housesIn_39
  · skip
    have zh_3 : L5l4.toInt < tnv11.toInt := z_nle h_3
    refine lv_aload_n hx hb dX5_housesIn_14 rfl (lv_at hl 0 rfl) ?_
    refine va_get (D := D) (ci := 5) (v := .ref ob_1) (C := RX5) (T := TX5) (N := 2) hx hb hts iT_X5 hown hK hP 0 rfl rfl 1 (by decide) (hts _ tw_2_149) (fun _ h9 => h9) rfl dX5_housesIn_15 ?_
    refine lv_iload hx hb dX5_housesIn_18 (lv_at hl 4 rfl) ?_
    refine va_iald hx hb hK hP 1 0 rfl rfl (z_in (by omega) (by omega)) dX5_housesIn_20 ?_
    refine lv_topi (fun x_4 ex_4 => ?_)
    refine lv_iload_n hx hb dX5_housesIn_21 rfl (lv_at hl 2 rfl) ?_
    refine lv_icmp_ne (tgt := 32) hx hb dX5_housesIn_22 (by decide) (fun h_5 => ?_) (fun h_5 => ?_)
    · skip
      have zh_5 : ¬ x_4.toInt = p1.toInt := z_ne h_5
      obtain ⟨x_6, ex_6⟩ : ∃ y : Int32, y = L5l4 + 1 := ⟨_, rfl⟩
      have zx_6 : x_6.toInt = L5l4.toInt + 1 := by rw [ex_6]; exact z_add rfl rfl (by omega) (by omega)
      refine lv_iinc (v := x_6) (lv' := [(4, .int x_6), (0, .ref ob), (1, .ref tn), (2, .int p1), (3, .int L5l3)]) hx hb dX5_housesIn_32 hl (k := 4) rfl (by rw [ex_6]; rfl) (by decide) rfl (fun ls hl => ?_)
      refine lv_goto (tgt := 5) hx hb dX5_housesIn_35 (by decide) ?_
      exact ih_1 _ _ _ _ (by omega) ⟨L5l3, x_6, rfl, (show 0 ≤ L5l3.toInt ∧ L5l3.toInt ≤ 1023 from by omega), (show 0 ≤ x_6.toInt ∧ x_6.toInt ≤ 6 from by omega), hP.sub (ws' := [(ob, .inr (5, [.ref ob_0, .ref ob_1])), (ob_1, .inl (k 0, 6, .inl obg1)), (tn, .inr (10, [.int tnv0, .int tnv1, .int tnv2, .ref tn_3, .ref tn_4, .ref tn_5, .ref tn_6, .int tnv7, .int tnv8, .ref tn_9, .ref tn_10, .int tnv11, .ref tn_12, .ref tn_13, .ref tn_14, .ref tn_15, .int tnv16, .ref tn_17, .ref tn_18, .ref tnt]))]) [0, 1, 2] rfl, hD.sub (ws' := [(ob, .inr (5, [.ref ob_0, .ref ob_1])), (ob_1, .inl (k 0, 6, .inl obg1)), (tn, .inr (10, [.int tnv0, .int tnv1, .int tnv2, .ref tn_3, .ref tn_4, .ref tn_5, .ref tn_6, .int tnv7, .int tnv8, .ref tn_9, .ref tn_10, .int tnv11, .ref tn_12, .ref tn_13, .ref tn_14, .ref tn_15, .int tnv16, .ref tn_17, .ref tn_18, .ref tnt]))]) [0, 1, 2] (by decide +kernel) rfl, hS, lv_sub hl [1, 2, 3, 4, 0] rfl⟩
    · skip
      have zh_5 : x_4.toInt = p1.toInt := z_eq h_5
      refine lv_iload_n hx hb dX5_housesIn_25 rfl (lv_at hl 3 rfl) ?_
      refine lv_iconst (v := 1) hx hb dX5_housesIn_26 (by decide) ?_
      refine lv_iload hx hb dX5_housesIn_27 (lv_at hl 4 rfl) ?_
      refine lv_ishl hx hb dX5_housesIn_29 ?_
      refine lv_topi (fun x_7 ex_7 => ?_)
      have zx_7 : 1 ≤ x_7.toInt ∧ x_7.toInt ≤ 32 := by rw [ex_7]; exact z_shl1 5 32 rfl (by decide) (by omega) (by omega)
      refine lv_ior hx hb dX5_housesIn_30 ?_
      refine lv_topi (fun x_8 ex_8 => ?_)
      have zx_8 : 0 ≤ x_8.toInt ∧ x_8.toInt < 1024 := by rw [ex_8]; exact z_or 10 1024 rfl (by decide) ⟨by omega, by omega⟩ ⟨by omega, by omega⟩
      refine lv_istore_n (lv' := [(3, .int x_8), (0, .ref ob), (1, .ref tn), (2, .int p1), (4, .int L5l4)]) hx hb dX5_housesIn_31 rfl hl (by decide) rfl (fun ls hl => ?_)
      obtain ⟨x_9, ex_9⟩ : ∃ y : Int32, y = L5l4 + 1 := ⟨_, rfl⟩
      have zx_9 : x_9.toInt = L5l4.toInt + 1 := by rw [ex_9]; exact z_add rfl rfl (by omega) (by omega)
      refine lv_iinc (v := x_9) (lv' := [(4, .int x_9), (3, .int x_8), (0, .ref ob), (1, .ref tn), (2, .int p1)]) hx hb dX5_housesIn_32 hl (k := 4) rfl (by rw [ex_9]; rfl) (by decide) rfl (fun ls hl => ?_)
      refine lv_goto (tgt := 5) hx hb dX5_housesIn_35 (by decide) ?_
      exact ih_1 _ _ _ _ (by omega) ⟨x_8, x_9, rfl, (show 0 ≤ x_8.toInt ∧ x_8.toInt ≤ 1023 from by omega), (show 0 ≤ x_9.toInt ∧ x_9.toInt ≤ 6 from by omega), hP.sub (ws' := [(ob, .inr (5, [.ref ob_0, .ref ob_1])), (ob_1, .inl (k 0, 6, .inl obg1)), (tn, .inr (10, [.int tnv0, .int tnv1, .int tnv2, .ref tn_3, .ref tn_4, .ref tn_5, .ref tn_6, .int tnv7, .int tnv8, .ref tn_9, .ref tn_10, .int tnv11, .ref tn_12, .ref tn_13, .ref tn_14, .ref tn_15, .int tnv16, .ref tn_17, .ref tn_18, .ref tnt]))]) [0, 1, 2] rfl, hD.sub (ws' := [(ob, .inr (5, [.ref ob_0, .ref ob_1])), (ob_1, .inl (k 0, 6, .inl obg1)), (tn, .inr (10, [.int tnv0, .int tnv1, .int tnv2, .ref tn_3, .ref tn_4, .ref tn_5, .ref tn_6, .int tnv7, .int tnv8, .ref tn_9, .ref tn_10, .int tnv11, .ref tn_12, .ref tn_13, .ref tn_14, .ref tn_15, .int tnv16, .ref tn_17, .ref tn_18, .ref tnt]))]) [0, 1, 2] (by decide +kernel) rfl, hS, lv_sub hl [2, 3, 4, 1, 0] rfl⟩
set_option maxHeartbeats 4000000 in
set_option maxRecDepth 100000 in
theorem c_X6_weigh (l : Launch) (D : va_G) (k : Nat → ClassId) (ob : Nat) (tn : Nat) (p1 : Int32) (obv0 : Int32) (obv1 : Int32) (obv2 : Int32) (obd : Nat) (obd_0 : Nat) (obdv1 : Int32) (obdv2 : Int32) (obdg0 : Nat → Int32) (tnv0 : Int32) (tnv1 : Int32) (tnv2 : Int32) (tn_3 : Nat) (tn_4 : Nat) (tn_5 : Nat) (tn_6 : Nat) (tnv7 : Int32) (tnv8 : Int32) (tn_9 : Nat) (tn_10 : Nat) (tnv11 : Int32) (tn_12 : Nat) (tn_13 : Nat) (tn_14 : Nat) (tn_15 : Nat) (tnv16 : Int32) (tn_17 : Nat) (tn_18 : Nat) (tnt : Nat) (tng3 : Nat → Int32) (tng4 : Nat → Int32) (tng5 : Nat → Int32) (sz : Nat) (hp_obdg0_0 : PR 8 1 0 0 1000000 obdg0) (h_tnv0 : 0 ≤ tnv0.toInt ∧ tnv0.toInt ≤ 8) (h_tnv2 : 0 ≤ tnv2.toInt ∧ tnv2.toInt ≤ 10) (h_tnv8 : 0 ≤ tnv8.toInt ∧ tnv8.toInt ≤ 4) (h_tnv11 : 0 ≤ tnv11.toInt ∧ tnv11.toInt ≤ 6) (h_tnv16 : 0 ≤ tnv16.toInt ∧ tnv16.toInt ≤ 2) (hp_tng3_0 : PR 10 1 0 0 7 tng3) (hp_tng4_0 : PR 10 1 0 0 7 tng4) (hp_tng5_0 : PR 10 1 0 0 60 tng5) : Met l yX6_weigh (ww yX6_weigh cX6_weigh 6 none) ({ frames := 3, cells := 0, slots := 0, locals := 74 }) (Pre0 D k [(ob, .inr (6, [.int obv0, .int obv1, .int obv2, .ref obd])), (obd, .inr (1, [.ref obd_0, .int obdv1, .int obdv2])), (obd_0, .inl (k 0, 8, .inl obdg0)), (tn, .inr (10, [.int tnv0, .int tnv1, .int tnv2, .ref tn_3, .ref tn_4, .ref tn_5, .ref tn_6, .int tnv7, .int tnv8, .ref tn_9, .ref tn_10, .int tnv11, .ref tn_12, .ref tn_13, .ref tn_14, .ref tn_15, .int tnv16, .ref tn_17, .ref tn_18, .ref tnt])), (tn_3, .inl (k 0, 10, .inl tng3)), (tn_4, .inl (k 0, 10, .inl tng4)), (tn_5, .inl (k 0, 10, .inl tng5))] sz [.ref ob, .ref tn, .int p1]) (va_Qv (fun (u : Int32 × Int32 × Int32 × (Nat → Int32) × Int32 × Int32) => match u with | (obv2z, obdv1z, obdv2z, obdg0z, obv0z, obv1z) => (PR 8 1 0 0 1000000 obdg0z)) (fun (u : Int32 × Int32 × Int32 × (Nat → Int32) × Int32 × Int32) tZ => match u with | (obv2z, obdv1z, obdv2z, obdg0z, obv0z, obv1z) => Bw D k (va_A [(ob, .inr (6, [.int obv0, .int obv1, .int obv2, .ref obd])), (obd, .inr (1, [.ref obd_0, .int obdv1, .int obdv2])), (obd_0, .inl (k 0, 8, .inl obdg0)), (tn, .inr (10, [.int tnv0, .int tnv1, .int tnv2, .ref tn_3, .ref tn_4, .ref tn_5, .ref tn_6, .int tnv7, .int tnv8, .ref tn_9, .ref tn_10, .int tnv11, .ref tn_12, .ref tn_13, .ref tn_14, .ref tn_15, .int tnv16, .ref tn_17, .ref tn_18, .ref tnt])), (tn_3, .inl (k 0, 10, .inl tng3)), (tn_4, .inl (k 0, 10, .inl tng4)), (tn_5, .inl (k 0, 10, .inl tng5))] sz) [(ob, .inr (6, [.int obv0z, .int obv1z, .int obv2z, .ref obd])), (obd, .inr (1, [.ref obd_0, .int obdv1z, .int obdv2z])), (obd_0, .inl (k 0, 8, .inl obdg0z)), (tn, .inr (10, [.int tnv0, .int tnv1, .int tnv2, .ref tn_3, .ref tn_4, .ref tn_5, .ref tn_6, .int tnv7, .int tnv8, .ref tn_9, .ref tn_10, .int tnv11, .ref tn_12, .ref tn_13, .ref tn_14, .ref tn_15, .int tnv16, .ref tn_17, .ref tn_18, .ref tnt])), (tn_3, .inl (k 0, 10, .inl tng3)), (tn_4, .inl (k 0, 10, .inl tng4)), (tn_5, .inl (k 0, 10, .inl tng5))] tZ) (va_A [(ob, .inr (6, [.int obv0, .int obv1, .int obv2, .ref obd])), (obd, .inr (1, [.ref obd_0, .int obdv1, .int obdv2])), (obd_0, .inl (k 0, 8, .inl obdg0)), (tn, .inr (10, [.int tnv0, .int tnv1, .int tnv2, .ref tn_3, .ref tn_4, .ref tn_5, .ref tn_6, .int tnv7, .int tnv8, .ref tn_9, .ref tn_10, .int tnv11, .ref tn_12, .ref tn_13, .ref tn_14, .ref tn_15, .int tnv16, .ref tn_17, .ref tn_18, .ref tnt])), (tn_3, .inl (k 0, 10, .inl tng3)), (tn_4, .inl (k 0, 10, .inl tng4)), (tn_5, .inl (k 0, 10, .inl tng5))] sz)) 0 0 (va_A [(ob, .inr (6, [.int obv0, .int obv1, .int obv2, .ref obd])), (obd, .inr (1, [.ref obd_0, .int obdv1, .int obdv2])), (obd_0, .inl (k 0, 8, .inl obdg0)), (tn, .inr (10, [.int tnv0, .int tnv1, .int tnv2, .ref tn_3, .ref tn_4, .ref tn_5, .ref tn_6, .int tnv7, .int tnv8, .ref tn_9, .ref tn_10, .int tnv11, .ref tn_12, .ref tn_13, .ref tn_14, .ref tn_15, .int tnv16, .ref tn_17, .ref tn_18, .ref tnt])), (tn_3, .inl (k 0, 10, .inl tng3)), (tn_4, .inl (k 0, 10, .inl tng4)), (tn_5, .inl (k 0, 10, .inl tng5))] sz) := by
  refine Met.ofW (cc := cX6_weigh) (maxL := 6) (ret := none) (by decide +kernel) rfl ?_
  intro p e s m args below meth c s₁ B hml hv
  obtain ⟨rfl, hsz, hP, hK, hD0, hN⟩ := hv
  have hx := B.exec
  have hb := B.bytes
  have hr := B.returns
  have hts : ∀ w ∈ TT, w.before _ s = true := fun w h => atoms_spec (ws := ww yX6_weigh cX6_weigh 6 none) B.pre w (List.mem_cons_of_mem _ h)
  have hown : s.vm.findClass RX6 = some m.cls := findClass_of_methodNamed B.named
  have hlocks := B.notSynchronized
  subst hsz
  have hD := hD0.self (sz := s.heap.size)
  generalize hAe : va_A [(ob, .inr (6, [.int obv0, .int obv1, .int obv2, .ref obd])), (obd, .inr (1, [.ref obd_0, .int obdv1, .int obdv2])), (obd_0, .inl (k 0, 8, .inl obdg0)), (tn, .inr (10, [.int tnv0, .int tnv1, .int tnv2, .ref tn_3, .ref tn_4, .ref tn_5, .ref tn_6, .int tnv7, .int tnv8, .ref tn_9, .ref tn_10, .int tnv11, .ref tn_12, .ref tn_13, .ref tn_14, .ref tn_15, .int tnv16, .ref tn_17, .ref tn_18, .ref tnt])), (tn_3, .inl (k 0, 10, .inl tng3)), (tn_4, .inl (k 0, 10, .inl tng4)), (tn_5, .inl (k 0, 10, .inl tng5))] s.heap.size = A at hD ⊢
  have hA : ∀ q : Nat, s.heap.size ≤ q → A q := fun q h => by rw [← hAe]; exact Or.inr h
  have hS : va_S A s.heap s.heap [] := va_S.rf
  have hl := lv_entry ([.ref ob, .ref tn, .int p1]) (n := 6) (Nat.le_of_ble_eq_true rfl)
  rw [lg_entry_eq]
  generalize (lg_sl ([.ref ob, .ref tn, .int p1]) ++ List.replicate (6 - (lg_sl ([.ref ob, .ref tn, .int p1])).length) Slot.unset).toArray = ls at hl ⊢
  have hl : lv_has ls 6 [(0, .ref ob), (1, .ref tn), (2, .int p1)] := hl
  refine lv_aload_n hx hb dX6_weigh_0 rfl (lv_at hl 0 rfl) ?_
  refine va_get (D := D) (ci := 6) (v := .ref obd) (C := RX6) (T := TX6) (N := 4) hx hb hts iT_X6 hown hK hP 0 rfl rfl 3 (by decide) (hts _ tw_2_132) (fun _ h9 => h9) rfl dX6_weigh_1 ?_
  refine lv_aload_n hx hb dX6_weigh_4 rfl (lv_at hl 1 rfl) ?_
  refine lv_iload_n hx hb dX6_weigh_5 rfl (lv_at hl 2 rfl) ?_
  obtain ⟨hPc, hDc, hFc⟩ := sub3 hP hD hS hA (ws' := [(obd, .inr (1, [.ref obd_0, .int obdv1, .int obdv2])), (obd_0, .inl (k 0, 8, .inl obdg0)), (tn, .inr (10, [.int tnv0, .int tnv1, .int tnv2, .ref tn_3, .ref tn_4, .ref tn_5, .ref tn_6, .int tnv7, .int tnv8, .ref tn_9, .ref tn_10, .int tnv11, .ref tn_12, .ref tn_13, .ref tn_14, .ref tn_15, .int tnv16, .ref tn_17, .ref tn_18, .ref tnt])), (tn_3, .inl (k 0, 10, .inl tng3)), (tn_4, .inl (k 0, 10, .inl tng4)), (tn_5, .inl (k 0, 10, .inl tng5))]) [1, 2, 3, 4, 5, 6] (by decide +kernel) rfl
  refine va_callv (va_runV (C := RX1) (As := [.ref tn, .int p1]) (rest := []) ⟨hx, hb, hml, hown, hts⟩ (c_X1_fallAt l D k obd tn p1 obd_0 obdv1 obdv2 obdg0 tnv0 tnv1 tnv2 tn_3 tn_4 tn_5 tn_6 tnv7 tnv8 tn_9 tn_10 tnv11 tn_12 tn_13 tn_14 tn_15 tnv16 tn_17 tn_18 tnt tng3 tng4 tng5 s.heap.size hp_obdg0_0 (show 0 ≤ tnv0.toInt ∧ tnv0.toInt ≤ 8 from by omega) (show 0 ≤ tnv2.toInt ∧ tnv2.toInt ≤ 10 from by omega) (show 0 ≤ tnv8.toInt ∧ tnv8.toInt ≤ 4 from by omega) (show 0 ≤ tnv11.toInt ∧ tnv11.toInt ≤ 6 from by omega) (show 0 ≤ tnv16.toInt ∧ tnv16.toInt ≤ 2 from by omega) hp_tng3_0 hp_tng4_0 hp_tng5_0) (cwV 2 hts (gV tw_5_55 tw_5_56 tw_5_57 tw_1_6 tw_5_58) rfl rfl rfl hdV_X1_fallAt ⟨Nat.le_of_ble_eq_true rfl, Nat.le_of_ble_eq_true rfl⟩) (cz_V hK hPc hDc hN (ci := 1) (q0 := 0) rfl rfl [.ref tn, .int p1]) rfl rfl hl.1 rfl (lv_room (Nat.le_of_ble_eq_true rfl)) dX6_weigh_6 ⟨Nat.le_of_ble_eq_true rfl, Nat.le_of_ble_eq_true rfl⟩) hS (fun q _ h => hFc q h) hFc (fun uZ tZ H1 locs ht hvm hw hB hz1 hk1 hS => ?_)
  obtain ⟨o_2, o_3, o_4⟩ := uZ
  obtain ⟨hP1, hK1, hD1⟩ := hB
  rw [ht] at hP1
  obtain ⟨hP, hD⟩ := va_join (wr := [(ob, .inr (6, [.int obv0, .int obv1, .int obv2, .ref obd]))]) (w1 := [(obd, .inr (1, [.ref obd_0, .int o_2, .int o_3])), (obd_0, .inl (k 0, 8, .inl o_4)), (tn, .inr (10, [.int tnv0, .int tnv1, .int tnv2, .ref tn_3, .ref tn_4, .ref tn_5, .ref tn_6, .int tnv7, .int tnv8, .ref tn_9, .ref tn_10, .int tnv11, .ref tn_12, .ref tn_13, .ref tn_14, .ref tn_15, .int tnv16, .ref tn_17, .ref tn_18, .ref tnt])), (tn_3, .inl (k 0, 10, .inl tng3)), (tn_4, .inl (k 0, 10, .inl tng4)), (tn_5, .inl (k 0, 10, .inl tng5))]) hP hD [1, 2, 3, 4, 5, 6] [0] rfl rfl (by decide +kernel) (by decide +kernel) hk1 hFc hP1 hD1
  clear hK1 hP1 hD1 hPc hDc hFc
  clear hk1 hz1 ht hvm
  have hP : va_P D vwCl [(ob, .inr (6, [.int obv0, .int obv1, .int obv2, .ref obd])), (obd, .inr (1, [.ref obd_0, .int o_2, .int o_3])), (obd_0, .inl (k 0, 8, .inl o_4)), (tn, .inr (10, [.int tnv0, .int tnv1, .int tnv2, .ref tn_3, .ref tn_4, .ref tn_5, .ref tn_6, .int tnv7, .int tnv8, .ref tn_9, .ref tn_10, .int tnv11, .ref tn_12, .ref tn_13, .ref tn_14, .ref tn_15, .int tnv16, .ref tn_17, .ref tn_18, .ref tnt])), (tn_3, .inl (k 0, 10, .inl tng3)), (tn_4, .inl (k 0, 10, .inl tng4)), (tn_5, .inl (k 0, 10, .inl tng5))] H1 := hP
  have hD : va_D A [(ob, .inr (6, [.int obv0, .int obv1, .int obv2, .ref obd])), (obd, .inr (1, [.ref obd_0, .int o_2, .int o_3])), (obd_0, .inl (k 0, 8, .inl o_4)), (tn, .inr (10, [.int tnv0, .int tnv1, .int tnv2, .ref tn_3, .ref tn_4, .ref tn_5, .ref tn_6, .int tnv7, .int tnv8, .ref tn_9, .ref tn_10, .int tnv11, .ref tn_12, .ref tn_13, .ref tn_14, .ref tn_15, .int tnv16, .ref tn_17, .ref tn_18, .ref tnt])), (tn_3, .inl (k 0, 10, .inl tng3)), (tn_4, .inl (k 0, 10, .inl tng4)), (tn_5, .inl (k 0, 10, .inl tng5))] := hD
  generalize H1 = H at hP hS ⊢
  have hw_5 : (PR 8 1 0 0 1000000 o_4) := hw
  have hw_6 := hw_5
  clear hw
  refine lv_aload_n hx hb dX6_weigh_9 rfl (lv_at hl 0 rfl) ?_
  refine va_get (D := D) (ci := 6) (v := .ref obd) (C := RX6) (T := TX6) (N := 4) hx hb hts iT_X6 hown hK hP 0 rfl rfl 3 (by decide) (hts _ tw_2_132) (fun _ h9 => h9) rfl dX6_weigh_10 ?_
  refine lv_aload_n hx hb dX6_weigh_13 rfl (lv_at hl 1 rfl) ?_
  obtain ⟨hPc, hDc, hFc⟩ := sub3 hP hD hS hA (ws' := [(obd, .inr (1, [.ref obd_0, .int o_2, .int o_3])), (obd_0, .inl (k 0, 8, .inl o_4)), (tn, .inr (10, [.int tnv0, .int tnv1, .int tnv2, .ref tn_3, .ref tn_4, .ref tn_5, .ref tn_6, .int tnv7, .int tnv8, .ref tn_9, .ref tn_10, .int tnv11, .ref tn_12, .ref tn_13, .ref tn_14, .ref tn_15, .int tnv16, .ref tn_17, .ref tn_18, .ref tnt]))]) [1, 2, 3] (by decide +kernel) rfl
  refine va_calli (va_runV (C := RX1) (As := [.ref tn]) (rest := []) ⟨hx, hb, hml, hown, hts⟩ (c_X1_latest l D k obd tn obd_0 o_2 o_3 o_4 tnv0 tnv1 tnv2 tn_3 tn_4 tn_5 tn_6 tnv7 tnv8 tn_9 tn_10 tnv11 tn_12 tn_13 tn_14 tn_15 tnv16 tn_17 tn_18 tnt H.size hw_6 (show 0 ≤ tnv0.toInt ∧ tnv0.toInt ≤ 8 from by omega) (show 0 ≤ tnv2.toInt ∧ tnv2.toInt ≤ 10 from by omega) (show 0 ≤ tnv8.toInt ∧ tnv8.toInt ≤ 4 from by omega) (show 0 ≤ tnv11.toInt ∧ tnv11.toInt ≤ 6 from by omega) (show 0 ≤ tnv16.toInt ∧ tnv16.toInt ≤ 2 from by omega)) (cwV 1 hts (gV tw_5_59 tw_4_7 tw_4_8 tw_1_6 tw_4_9) rfl rfl rfl hdV_X1_latest ⟨Nat.le_of_ble_eq_true rfl, Nat.le_of_ble_eq_true rfl⟩) (cz_V hK hPc hDc hN (ci := 1) (q0 := 0) rfl rfl [.ref tn]) rfl rfl hl.1 rfl (lv_room (Nat.le_of_ble_eq_true rfl)) dX6_weigh_14 ⟨Nat.le_of_ble_eq_true rfl, Nat.le_of_ble_eq_true rfl⟩) hS (fun q _ h => hFc q h) hFc (fun r_7 uZ tZ H1 locs ht hvm hw hB hz1 hk1 hS => ?_)
  obtain ⟨hP1, hK1, hD1⟩ := hB
  rw [ht] at hP1
  obtain ⟨hP, hD⟩ := va_join (wr := [(ob, .inr (6, [.int obv0, .int obv1, .int obv2, .ref obd])), (tn_3, .inl (k 0, 10, .inl tng3)), (tn_4, .inl (k 0, 10, .inl tng4)), (tn_5, .inl (k 0, 10, .inl tng5))]) (w1 := [(obd, .inr (1, [.ref obd_0, .int o_2, .int o_3])), (obd_0, .inl (k 0, 8, .inl o_4)), (tn, .inr (10, [.int tnv0, .int tnv1, .int tnv2, .ref tn_3, .ref tn_4, .ref tn_5, .ref tn_6, .int tnv7, .int tnv8, .ref tn_9, .ref tn_10, .int tnv11, .ref tn_12, .ref tn_13, .ref tn_14, .ref tn_15, .int tnv16, .ref tn_17, .ref tn_18, .ref tnt]))]) hP hD [1, 2, 3] [0, 4, 5, 6] rfl rfl (by decide +kernel) (by decide +kernel) hk1 hFc hP1 hD1
  clear hK1 hP1 hD1 hPc hDc hFc
  clear hk1 hz1 ht hvm
  have hP : va_P D vwCl [(ob, .inr (6, [.int obv0, .int obv1, .int obv2, .ref obd])), (tn_3, .inl (k 0, 10, .inl tng3)), (tn_4, .inl (k 0, 10, .inl tng4)), (tn_5, .inl (k 0, 10, .inl tng5)), (obd, .inr (1, [.ref obd_0, .int o_2, .int o_3])), (obd_0, .inl (k 0, 8, .inl o_4)), (tn, .inr (10, [.int tnv0, .int tnv1, .int tnv2, .ref tn_3, .ref tn_4, .ref tn_5, .ref tn_6, .int tnv7, .int tnv8, .ref tn_9, .ref tn_10, .int tnv11, .ref tn_12, .ref tn_13, .ref tn_14, .ref tn_15, .int tnv16, .ref tn_17, .ref tn_18, .ref tnt]))] H1 := hP
  have hD : va_D A [(ob, .inr (6, [.int obv0, .int obv1, .int obv2, .ref obd])), (tn_3, .inl (k 0, 10, .inl tng3)), (tn_4, .inl (k 0, 10, .inl tng4)), (tn_5, .inl (k 0, 10, .inl tng5)), (obd, .inr (1, [.ref obd_0, .int o_2, .int o_3])), (obd_0, .inl (k 0, 8, .inl o_4)), (tn, .inr (10, [.int tnv0, .int tnv1, .int tnv2, .ref tn_3, .ref tn_4, .ref tn_5, .ref tn_6, .int tnv7, .int tnv8, .ref tn_9, .ref tn_10, .int tnv11, .ref tn_12, .ref tn_13, .ref tn_14, .ref tn_15, .int tnv16, .ref tn_17, .ref tn_18, .ref tnt]))] := hD
  generalize H1 = H at hP hS ⊢
  have hw_8 : (0 ≤ r_7.toInt ∧ r_7.toInt ≤ 1000000) := hw
  have hw_9 := hw_8
  clear hw
  refine lv_istore_n (lv' := [(3, .int r_7), (0, .ref ob), (1, .ref tn), (2, .int p1)]) hx hb dX6_weigh_17 rfl hl (by decide) rfl (fun ls hl => ?_)
  refine lv_iload_n hx hb dX6_weigh_18 rfl (lv_at hl 0 rfl) ?_
  refine lv_ldc (v := 1000000) hx hb hown (hts _ tw_2_123) dX6_weigh_19 ?_
  refine lv_icmp_lt (tgt := 25) hx hb dX6_weigh_21 (by decide) (fun h_10 => ?_) (fun h_10 => ?_)
  · skip
    have zh_10 : r_7.toInt < 1000000 := z_lt h_10
    refine lv_iload_n hx hb dX6_weigh_25 rfl (lv_at hl 0 rfl) ?_
    refine lv_aload_n hx hb dX6_weigh_26 rfl (lv_at hl 1 rfl) ?_
    refine va_get (D := D) (ci := 6) (v := .int obv0) (C := RX6) (T := TX6) (N := 4) hx hb hts iT_X6 hown hK hP 0 rfl rfl 0 (by decide) (hts _ tw_2_126) (fun _ h9 => h9) rfl dX6_weigh_27 ?_
    refine lv_icmp_ge (tgt := 43) hx hb dX6_weigh_30 (by decide) (fun h_11 => ?_) (fun h_11 => ?_)
    · skip
      have zh_11 : obv0.toInt ≤ r_7.toInt := z_le h_11
      refine lv_iconst (v := 0) hx hb dX6_weigh_43 (by decide) ?_
      refine lv_istore (lv' := [(4, .int 0), (3, .int r_7), (0, .ref ob), (1, .ref tn), (2, .int p1)]) hx hb dX6_weigh_44 hl (by decide) rfl (fun ls hl => ?_)
      refine lv_iconst (v := 0) hx hb dX6_weigh_46 (by decide) ?_
      refine lv_istore (lv' := [(5, .int 0), (4, .int 0), (3, .int r_7), (0, .ref ob), (1, .ref tn), (2, .int p1)]) hx hb dX6_weigh_47 hl (by decide) rfl (fun ls hl => ?_)
      refine loop_r (Wg := fun H locs ls => W p l e _ s m _ below meth c H locs _ _ _ (F0 m 49 ls [])) (fun n9 H locs ls => ∃ (L49l4 : Int32) (L49l5 : Int32), n9 = (8 - L49l5.toInt).toNat ∧ (0 ≤ L49l5.toInt ∧ L49l5.toInt ≤ 8) ∧ va_P D vwCl [(ob, .inr (6, [.int obv0, .int obv1, .int obv2, .ref obd])), (tn_3, .inl (k 0, 10, .inl tng3)), (tn_4, .inl (k 0, 10, .inl tng4)), (tn_5, .inl (k 0, 10, .inl tng5)), (obd, .inr (1, [.ref obd_0, .int o_2, .int o_3])), (obd_0, .inl (k 0, 8, .inl o_4)), (tn, .inr (10, [.int tnv0, .int tnv1, .int tnv2, .ref tn_3, .ref tn_4, .ref tn_5, .ref tn_6, .int tnv7, .int tnv8, .ref tn_9, .ref tn_10, .int tnv11, .ref tn_12, .ref tn_13, .ref tn_14, .ref tn_15, .int tnv16, .ref tn_17, .ref tn_18, .ref tnt]))] H ∧ va_D A [(ob, .inr (6, [.int obv0, .int obv1, .int obv2, .ref obd])), (tn_3, .inl (k 0, 10, .inl tng3)), (tn_4, .inl (k 0, 10, .inl tng4)), (tn_5, .inl (k 0, 10, .inl tng5)), (obd, .inr (1, [.ref obd_0, .int o_2, .int o_3])), (obd_0, .inl (k 0, 8, .inl o_4)), (tn, .inr (10, [.int tnv0, .int tnv1, .int tnv2, .ref tn_3, .ref tn_4, .ref tn_5, .ref tn_6, .int tnv7, .int tnv8, .ref tn_9, .ref tn_10, .int tnv11, .ref tn_12, .ref tn_13, .ref tn_14, .ref tn_15, .int tnv16, .ref tn_17, .ref tn_18, .ref tnt]))] ∧ va_S A s.heap H locs ∧ lv_has ls 6 [(0, .ref ob), (1, .ref tn), (2, .int p1), (3, .int r_7), (4, .int L49l4), (5, .int L49l5)]) (fun n9 H locs ls hI ih_12 => ?_) _ _ _ _ ⟨0, 0, rfl, (show 0 ≤ 0 ∧ 0 ≤ 8 from by omega), hP.sub (ws' := [(ob, .inr (6, [.int obv0, .int obv1, .int obv2, .ref obd])), (tn_3, .inl (k 0, 10, .inl tng3)), (tn_4, .inl (k 0, 10, .inl tng4)), (tn_5, .inl (k 0, 10, .inl tng5)), (obd, .inr (1, [.ref obd_0, .int o_2, .int o_3])), (obd_0, .inl (k 0, 8, .inl o_4)), (tn, .inr (10, [.int tnv0, .int tnv1, .int tnv2, .ref tn_3, .ref tn_4, .ref tn_5, .ref tn_6, .int tnv7, .int tnv8, .ref tn_9, .ref tn_10, .int tnv11, .ref tn_12, .ref tn_13, .ref tn_14, .ref tn_15, .int tnv16, .ref tn_17, .ref tn_18, .ref tnt]))]) [0, 1, 2, 3, 4, 5, 6] rfl, hD.sub (ws' := [(ob, .inr (6, [.int obv0, .int obv1, .int obv2, .ref obd])), (tn_3, .inl (k 0, 10, .inl tng3)), (tn_4, .inl (k 0, 10, .inl tng4)), (tn_5, .inl (k 0, 10, .inl tng5)), (obd, .inr (1, [.ref obd_0, .int o_2, .int o_3])), (obd_0, .inl (k 0, 8, .inl o_4)), (tn, .inr (10, [.int tnv0, .int tnv1, .int tnv2, .ref tn_3, .ref tn_4, .ref tn_5, .ref tn_6, .int tnv7, .int tnv8, .ref tn_9, .ref tn_10, .int tnv11, .ref tn_12, .ref tn_13, .ref tn_14, .ref tn_15, .int tnv16, .ref tn_17, .ref tn_18, .ref tnt]))]) [0, 1, 2, 3, 4, 5, 6] (by decide +kernel) rfl, hS, lv_sub hl [3, 4, 5, 2, 1, 0] rfl⟩
      clear hP hD hS hl
      obtain ⟨L49l4, L49l5, en_13, zL49l5, hP, hD, hS, hl⟩ := hI
      refine lv_iload hx hb dX6_weigh_49 (lv_at hl 5 rfl) ?_
      refine lv_aload_n hx hb dX6_weigh_51 rfl (lv_at hl 1 rfl) ?_
      refine va_get (D := D) (ci := 10) (v := .int tnv0) (C := RX10) (T := TX10) (N := 20) hx hb hts iT_X10 hown hK hP 6 rfl rfl 0 (by decide) (hts _ tw_1_68) (fun _ h9 => h9) rfl dX6_weigh_52 ?_
      refine lv_icmp_ge (tgt := 79) hx hb dX6_weigh_55 (by decide) (fun h_14 => ?_) (fun h_14 => ?_)
      · skip
        have zh_14 : tnv0.toInt ≤ L49l5.toInt := z_le h_14
        refine lv_aload_n hx hb dX6_weigh_79 rfl (lv_at hl 0 rfl) ?_
        refine lv_aload_n hx hb dX6_weigh_80 rfl (lv_at hl 0 rfl) ?_
        refine va_get (D := D) (ci := 6) (v := .int obv2) (C := RX6) (T := TX6) (N := 4) hx hb hts iT_X6 hown hK hP 0 rfl rfl 2 (by decide) (hts _ tw_2_130) (fun _ h9 => h9) rfl dX6_weigh_81 ?_
        refine lv_iload hx hb dX6_weigh_84 (lv_at hl 4 rfl) ?_
        obtain ⟨hPc, hDc, hFc⟩ := sub3 hP hD hS hA (ws' := []) [] (by decide +kernel) rfl
        refine va_calli (va_runS (As := [.int obv2, .int L49l4]) (rest := [.ref ob]) ⟨hx, hb, hml, hown, hts⟩ (c_J9_min_7cf53 l D k obv2 L49l4 H.size) (va_cwS 2 hts (gS tw_5_49 tw_3_17 tw_1_14 tw_3_18) rfl rfl rfl hdS_J9_min_7cf53 ⟨Nat.le_of_ble_eq_true rfl, Nat.le_of_ble_eq_true rfl⟩) (cz_S hK hPc hDc hN [.int obv2, .int L49l4]) rfl rfl hl.1 rfl (lv_room (Nat.le_of_ble_eq_true rfl)) dX6_weigh_86 ⟨Nat.le_of_ble_eq_true rfl, Nat.le_of_ble_eq_true rfl⟩) hS (fun q _ h => hFc q h) hFc (fun r_15 uZ tZ H1 locs ht hvm hw hB hz1 hk1 hS => ?_)
        obtain ⟨hP1, hK1, hD1⟩ := hB
        rw [ht] at hP1
        obtain ⟨hP, hD⟩ := va_join (wr := [(ob, .inr (6, [.int obv0, .int obv1, .int obv2, .ref obd])), (tn_3, .inl (k 0, 10, .inl tng3)), (tn_4, .inl (k 0, 10, .inl tng4)), (tn_5, .inl (k 0, 10, .inl tng5)), (obd, .inr (1, [.ref obd_0, .int o_2, .int o_3])), (obd_0, .inl (k 0, 8, .inl o_4)), (tn, .inr (10, [.int tnv0, .int tnv1, .int tnv2, .ref tn_3, .ref tn_4, .ref tn_5, .ref tn_6, .int tnv7, .int tnv8, .ref tn_9, .ref tn_10, .int tnv11, .ref tn_12, .ref tn_13, .ref tn_14, .ref tn_15, .int tnv16, .ref tn_17, .ref tn_18, .ref tnt]))]) (w1 := []) hP hD [] [0, 1, 2, 3, 4, 5, 6] rfl rfl (by decide +kernel) (by decide +kernel) hk1 hFc hP1 hD1
        clear hK1 hP1 hD1 hPc hDc hFc
        clear hk1 hz1 ht hvm
        have hP : va_P D vwCl [(ob, .inr (6, [.int obv0, .int obv1, .int obv2, .ref obd])), (tn_3, .inl (k 0, 10, .inl tng3)), (tn_4, .inl (k 0, 10, .inl tng4)), (tn_5, .inl (k 0, 10, .inl tng5)), (obd, .inr (1, [.ref obd_0, .int o_2, .int o_3])), (obd_0, .inl (k 0, 8, .inl o_4)), (tn, .inr (10, [.int tnv0, .int tnv1, .int tnv2, .ref tn_3, .ref tn_4, .ref tn_5, .ref tn_6, .int tnv7, .int tnv8, .ref tn_9, .ref tn_10, .int tnv11, .ref tn_12, .ref tn_13, .ref tn_14, .ref tn_15, .int tnv16, .ref tn_17, .ref tn_18, .ref tnt]))] H1 := hP
        have hD : va_D A [(ob, .inr (6, [.int obv0, .int obv1, .int obv2, .ref obd])), (tn_3, .inl (k 0, 10, .inl tng3)), (tn_4, .inl (k 0, 10, .inl tng4)), (tn_5, .inl (k 0, 10, .inl tng5)), (obd, .inr (1, [.ref obd_0, .int o_2, .int o_3])), (obd_0, .inl (k 0, 8, .inl o_4)), (tn, .inr (10, [.int tnv0, .int tnv1, .int tnv2, .ref tn_3, .ref tn_4, .ref tn_5, .ref tn_6, .int tnv7, .int tnv8, .ref tn_9, .ref tn_10, .int tnv11, .ref tn_12, .ref tn_13, .ref tn_14, .ref tn_15, .int tnv16, .ref tn_17, .ref tn_18, .ref tnt]))] := hD
        generalize H1 = H at hP hS ⊢
        have hw_16 : (r_15.toInt ≤ obv2.toInt ∧ r_15.toInt ≤ L49l4.toInt ∧ (r_15.toInt = obv2.toInt ∨ r_15.toInt = L49l4.toInt)) := hw
        have hw_17 := hw_16
        clear hw
        refine va_put (D := D) (ci := 6) (v := .int r_15) (ty := tyX6 2) (C := RX6) (T := TX6) (N := 4) hx hb hts iT_X6 tyX6 tyX6_ok nmX6 hown hK hP hD hS 0 rfl rfl 2 (by decide) (hts _ tw_2_130) (fun _ h9 => h9) rfl (tyX6_ok 2 (by decide)) rfl rfl (Nat.le_of_ble_eq_true rfl) dX6_weigh_89 (fun H locs hP hD hS => ?_)
        have hP : va_P D vwCl [(ob, .inr (6, [.int obv0, .int obv1, .int r_15, .ref obd])), (tn_3, .inl (k 0, 10, .inl tng3)), (tn_4, .inl (k 0, 10, .inl tng4)), (tn_5, .inl (k 0, 10, .inl tng5)), (obd, .inr (1, [.ref obd_0, .int o_2, .int o_3])), (obd_0, .inl (k 0, 8, .inl o_4)), (tn, .inr (10, [.int tnv0, .int tnv1, .int tnv2, .ref tn_3, .ref tn_4, .ref tn_5, .ref tn_6, .int tnv7, .int tnv8, .ref tn_9, .ref tn_10, .int tnv11, .ref tn_12, .ref tn_13, .ref tn_14, .ref tn_15, .int tnv16, .ref tn_17, .ref tn_18, .ref tnt]))] H := hP
        have hD : va_D A [(ob, .inr (6, [.int obv0, .int obv1, .int r_15, .ref obd])), (tn_3, .inl (k 0, 10, .inl tng3)), (tn_4, .inl (k 0, 10, .inl tng4)), (tn_5, .inl (k 0, 10, .inl tng5)), (obd, .inr (1, [.ref obd_0, .int o_2, .int o_3])), (obd_0, .inl (k 0, 8, .inl o_4)), (tn, .inr (10, [.int tnv0, .int tnv1, .int tnv2, .ref tn_3, .ref tn_4, .ref tn_5, .ref tn_6, .int tnv7, .int tnv8, .ref tn_9, .ref tn_10, .int tnv11, .ref tn_12, .ref tn_13, .ref tn_14, .ref tn_15, .int tnv16, .ref tn_17, .ref tn_18, .ref tnt]))] := hD
        obtain ⟨hP9, hD9⟩ := sub2 hP hD (ws' := [(ob, .inr (6, [.int obv0, .int obv1, .int r_15, .ref obd])), (obd, .inr (1, [.ref obd_0, .int o_2, .int o_3])), (obd_0, .inl (k 0, 8, .inl o_4)), (tn, .inr (10, [.int tnv0, .int tnv1, .int tnv2, .ref tn_3, .ref tn_4, .ref tn_5, .ref tn_6, .int tnv7, .int tnv8, .ref tn_9, .ref tn_10, .int tnv11, .ref tn_12, .ref tn_13, .ref tn_14, .ref tn_15, .int tnv16, .ref tn_17, .ref tn_18, .ref tnt])), (tn_3, .inl (k 0, 10, .inl tng3)), (tn_4, .inl (k 0, 10, .inl tng4)), (tn_5, .inl (k 0, 10, .inl tng5))]) [0, 4, 5, 6, 1, 2, 3] (by decide +kernel) rfl
        exact W.vret hx hb hr (fun tZ ht hW => ⟨⟨(r_15, o_2, o_3, o_4, obv0, obv1), rfl, hw_6, by rw [ht]; exact hP9, va_K.moved hW.alike hK, hD9⟩, hS.F ht⟩) hS.2.2 dX6_weigh_92
      · skip
        have zh_14 : L49l5.toInt < tnv0.toInt := z_nle h_14
        refine lv_iload hx hb dX6_weigh_58 (lv_at hl 4 rfl) ?_
        refine lv_aload_n hx hb dX6_weigh_60 rfl (lv_at hl 0 rfl) ?_
        refine va_get (D := D) (ci := 6) (v := .ref obd) (C := RX6) (T := TX6) (N := 4) hx hb hts iT_X6 hown hK hP 0 rfl rfl 3 (by decide) (hts _ tw_2_132) (fun _ h9 => h9) rfl dX6_weigh_61 ?_
        refine va_get (D := D) (ci := 1) (v := .ref obd_0) (C := RX1) (T := TX1) (N := 3) hx hb hts iT_X1 hown hK hP 4 rfl rfl 0 (by decide) (hts _ tw_2_20) (fun _ h9 => h9) rfl dX6_weigh_64 ?_
        refine lv_iload hx hb dX6_weigh_67 (lv_at hl 5 rfl) ?_
        refine va_iald hx hb hK hP 5 0 rfl rfl (z_in (by omega) (by omega)) dX6_weigh_69 ?_
        refine lv_topi (fun x_18 ex_18 => ?_)
        have zx_18r0 : 0 ≤ x_18.toInt ∧ x_18.toInt ≤ 1000000 := by rw [ex_18]; exact PR.ld hw_6 (by omega) (by omega) (by omega)
        refine lv_iadd hx hb dX6_weigh_70 ?_
        refine lv_topi (fun x_19 ex_19 => ?_)
        have zrL49l4 := z_rng L49l4
        refine lv_istore (lv' := [(4, .int x_19), (0, .ref ob), (1, .ref tn), (2, .int p1), (3, .int r_7), (5, .int L49l5)]) hx hb dX6_weigh_71 hl (by decide) rfl (fun ls hl => ?_)
        obtain ⟨x_20, ex_20⟩ : ∃ y : Int32, y = L49l5 + 1 := ⟨_, rfl⟩
        have zx_20 : x_20.toInt = L49l5.toInt + 1 := by rw [ex_20]; exact z_add rfl rfl (by omega) (by omega)
        refine lv_iinc (v := x_20) (lv' := [(5, .int x_20), (4, .int x_19), (0, .ref ob), (1, .ref tn), (2, .int p1), (3, .int r_7)]) hx hb dX6_weigh_73 hl (k := 5) rfl (by rw [ex_20]; rfl) (by decide) rfl (fun ls hl => ?_)
        refine lv_goto (tgt := 49) hx hb dX6_weigh_76 (by decide) ?_
        exact ih_12 _ _ _ _ (by omega) ⟨x_19, x_20, rfl, (show 0 ≤ x_20.toInt ∧ x_20.toInt ≤ 8 from by omega), hP.sub (ws' := [(ob, .inr (6, [.int obv0, .int obv1, .int obv2, .ref obd])), (tn_3, .inl (k 0, 10, .inl tng3)), (tn_4, .inl (k 0, 10, .inl tng4)), (tn_5, .inl (k 0, 10, .inl tng5)), (obd, .inr (1, [.ref obd_0, .int o_2, .int o_3])), (obd_0, .inl (k 0, 8, .inl o_4)), (tn, .inr (10, [.int tnv0, .int tnv1, .int tnv2, .ref tn_3, .ref tn_4, .ref tn_5, .ref tn_6, .int tnv7, .int tnv8, .ref tn_9, .ref tn_10, .int tnv11, .ref tn_12, .ref tn_13, .ref tn_14, .ref tn_15, .int tnv16, .ref tn_17, .ref tn_18, .ref tnt]))]) [0, 1, 2, 3, 4, 5, 6] rfl, hD.sub (ws' := [(ob, .inr (6, [.int obv0, .int obv1, .int obv2, .ref obd])), (tn_3, .inl (k 0, 10, .inl tng3)), (tn_4, .inl (k 0, 10, .inl tng4)), (tn_5, .inl (k 0, 10, .inl tng5)), (obd, .inr (1, [.ref obd_0, .int o_2, .int o_3])), (obd_0, .inl (k 0, 8, .inl o_4)), (tn, .inr (10, [.int tnv0, .int tnv1, .int tnv2, .ref tn_3, .ref tn_4, .ref tn_5, .ref tn_6, .int tnv7, .int tnv8, .ref tn_9, .ref tn_10, .int tnv11, .ref tn_12, .ref tn_13, .ref tn_14, .ref tn_15, .int tnv16, .ref tn_17, .ref tn_18, .ref tnt]))]) [0, 1, 2, 3, 4, 5, 6] (by decide +kernel) rfl, hS, lv_sub hl [2, 3, 4, 5, 1, 0] rfl⟩
    · skip
      have zh_11 : r_7.toInt < obv0.toInt := z_nle h_11
      refine lv_aload_n hx hb dX6_weigh_33 rfl (lv_at hl 1 rfl) ?_
      refine lv_iload_n hx hb dX6_weigh_34 rfl (lv_at hl 0 rfl) ?_
      refine va_put (D := D) (ci := 6) (v := .int r_7) (ty := tyX6 0) (C := RX6) (T := TX6) (N := 4) hx hb hts iT_X6 tyX6 tyX6_ok nmX6 hown hK hP hD hS 0 rfl rfl 0 (by decide) (hts _ tw_2_126) (fun _ h9 => h9) rfl (tyX6_ok 0 (by decide)) rfl rfl (Nat.le_of_ble_eq_true rfl) dX6_weigh_35 (fun H locs hP hD hS => ?_)
      have hP : va_P D vwCl [(ob, .inr (6, [.int r_7, .int obv1, .int obv2, .ref obd])), (tn_3, .inl (k 0, 10, .inl tng3)), (tn_4, .inl (k 0, 10, .inl tng4)), (tn_5, .inl (k 0, 10, .inl tng5)), (obd, .inr (1, [.ref obd_0, .int o_2, .int o_3])), (obd_0, .inl (k 0, 8, .inl o_4)), (tn, .inr (10, [.int tnv0, .int tnv1, .int tnv2, .ref tn_3, .ref tn_4, .ref tn_5, .ref tn_6, .int tnv7, .int tnv8, .ref tn_9, .ref tn_10, .int tnv11, .ref tn_12, .ref tn_13, .ref tn_14, .ref tn_15, .int tnv16, .ref tn_17, .ref tn_18, .ref tnt]))] H := hP
      have hD : va_D A [(ob, .inr (6, [.int r_7, .int obv1, .int obv2, .ref obd])), (tn_3, .inl (k 0, 10, .inl tng3)), (tn_4, .inl (k 0, 10, .inl tng4)), (tn_5, .inl (k 0, 10, .inl tng5)), (obd, .inr (1, [.ref obd_0, .int o_2, .int o_3])), (obd_0, .inl (k 0, 8, .inl o_4)), (tn, .inr (10, [.int tnv0, .int tnv1, .int tnv2, .ref tn_3, .ref tn_4, .ref tn_5, .ref tn_6, .int tnv7, .int tnv8, .ref tn_9, .ref tn_10, .int tnv11, .ref tn_12, .ref tn_13, .ref tn_14, .ref tn_15, .int tnv16, .ref tn_17, .ref tn_18, .ref tnt]))] := hD
      refine lv_aload_n hx hb dX6_weigh_38 rfl (lv_at hl 1 rfl) ?_
      refine lv_iload_n hx hb dX6_weigh_39 rfl (lv_at hl 3 rfl) ?_
      refine va_put (D := D) (ci := 6) (v := .int p1) (ty := tyX6 1) (C := RX6) (T := TX6) (N := 4) hx hb hts iT_X6 tyX6 tyX6_ok nmX6 hown hK hP hD hS 0 rfl rfl 1 (by decide) (hts _ tw_2_128) (fun _ h9 => h9) rfl (tyX6_ok 1 (by decide)) rfl rfl (Nat.le_of_ble_eq_true rfl) dX6_weigh_40 (fun H locs hP hD hS => ?_)
      have hP : va_P D vwCl [(ob, .inr (6, [.int r_7, .int p1, .int obv2, .ref obd])), (tn_3, .inl (k 0, 10, .inl tng3)), (tn_4, .inl (k 0, 10, .inl tng4)), (tn_5, .inl (k 0, 10, .inl tng5)), (obd, .inr (1, [.ref obd_0, .int o_2, .int o_3])), (obd_0, .inl (k 0, 8, .inl o_4)), (tn, .inr (10, [.int tnv0, .int tnv1, .int tnv2, .ref tn_3, .ref tn_4, .ref tn_5, .ref tn_6, .int tnv7, .int tnv8, .ref tn_9, .ref tn_10, .int tnv11, .ref tn_12, .ref tn_13, .ref tn_14, .ref tn_15, .int tnv16, .ref tn_17, .ref tn_18, .ref tnt]))] H := hP
      have hD : va_D A [(ob, .inr (6, [.int r_7, .int p1, .int obv2, .ref obd])), (tn_3, .inl (k 0, 10, .inl tng3)), (tn_4, .inl (k 0, 10, .inl tng4)), (tn_5, .inl (k 0, 10, .inl tng5)), (obd, .inr (1, [.ref obd_0, .int o_2, .int o_3])), (obd_0, .inl (k 0, 8, .inl o_4)), (tn, .inr (10, [.int tnv0, .int tnv1, .int tnv2, .ref tn_3, .ref tn_4, .ref tn_5, .ref tn_6, .int tnv7, .int tnv8, .ref tn_9, .ref tn_10, .int tnv11, .ref tn_12, .ref tn_13, .ref tn_14, .ref tn_15, .int tnv16, .ref tn_17, .ref tn_18, .ref tnt]))] := hD
      refine lv_iconst (v := 0) hx hb dX6_weigh_43 (by decide) ?_
      refine lv_istore (lv' := [(4, .int 0), (3, .int r_7), (0, .ref ob), (1, .ref tn), (2, .int p1)]) hx hb dX6_weigh_44 hl (by decide) rfl (fun ls hl => ?_)
      refine lv_iconst (v := 0) hx hb dX6_weigh_46 (by decide) ?_
      refine lv_istore (lv' := [(5, .int 0), (4, .int 0), (3, .int r_7), (0, .ref ob), (1, .ref tn), (2, .int p1)]) hx hb dX6_weigh_47 hl (by decide) rfl (fun ls hl => ?_)
      refine loop_r (Wg := fun H locs ls => W p l e _ s m _ below meth c H locs _ _ _ (F0 m 49 ls [])) (fun n9 H locs ls => ∃ (L49l4 : Int32) (L49l5 : Int32), n9 = (8 - L49l5.toInt).toNat ∧ (0 ≤ L49l5.toInt ∧ L49l5.toInt ≤ 8) ∧ va_P D vwCl [(ob, .inr (6, [.int r_7, .int p1, .int obv2, .ref obd])), (tn_3, .inl (k 0, 10, .inl tng3)), (tn_4, .inl (k 0, 10, .inl tng4)), (tn_5, .inl (k 0, 10, .inl tng5)), (obd, .inr (1, [.ref obd_0, .int o_2, .int o_3])), (obd_0, .inl (k 0, 8, .inl o_4)), (tn, .inr (10, [.int tnv0, .int tnv1, .int tnv2, .ref tn_3, .ref tn_4, .ref tn_5, .ref tn_6, .int tnv7, .int tnv8, .ref tn_9, .ref tn_10, .int tnv11, .ref tn_12, .ref tn_13, .ref tn_14, .ref tn_15, .int tnv16, .ref tn_17, .ref tn_18, .ref tnt]))] H ∧ va_D A [(ob, .inr (6, [.int r_7, .int p1, .int obv2, .ref obd])), (tn_3, .inl (k 0, 10, .inl tng3)), (tn_4, .inl (k 0, 10, .inl tng4)), (tn_5, .inl (k 0, 10, .inl tng5)), (obd, .inr (1, [.ref obd_0, .int o_2, .int o_3])), (obd_0, .inl (k 0, 8, .inl o_4)), (tn, .inr (10, [.int tnv0, .int tnv1, .int tnv2, .ref tn_3, .ref tn_4, .ref tn_5, .ref tn_6, .int tnv7, .int tnv8, .ref tn_9, .ref tn_10, .int tnv11, .ref tn_12, .ref tn_13, .ref tn_14, .ref tn_15, .int tnv16, .ref tn_17, .ref tn_18, .ref tnt]))] ∧ va_S A s.heap H locs ∧ lv_has ls 6 [(0, .ref ob), (1, .ref tn), (2, .int p1), (3, .int r_7), (4, .int L49l4), (5, .int L49l5)]) (fun n9 H locs ls hI ih_21 => ?_) _ _ _ _ ⟨0, 0, rfl, (show 0 ≤ 0 ∧ 0 ≤ 8 from by omega), hP.sub (ws' := [(ob, .inr (6, [.int r_7, .int p1, .int obv2, .ref obd])), (tn_3, .inl (k 0, 10, .inl tng3)), (tn_4, .inl (k 0, 10, .inl tng4)), (tn_5, .inl (k 0, 10, .inl tng5)), (obd, .inr (1, [.ref obd_0, .int o_2, .int o_3])), (obd_0, .inl (k 0, 8, .inl o_4)), (tn, .inr (10, [.int tnv0, .int tnv1, .int tnv2, .ref tn_3, .ref tn_4, .ref tn_5, .ref tn_6, .int tnv7, .int tnv8, .ref tn_9, .ref tn_10, .int tnv11, .ref tn_12, .ref tn_13, .ref tn_14, .ref tn_15, .int tnv16, .ref tn_17, .ref tn_18, .ref tnt]))]) [0, 1, 2, 3, 4, 5, 6] rfl, hD.sub (ws' := [(ob, .inr (6, [.int r_7, .int p1, .int obv2, .ref obd])), (tn_3, .inl (k 0, 10, .inl tng3)), (tn_4, .inl (k 0, 10, .inl tng4)), (tn_5, .inl (k 0, 10, .inl tng5)), (obd, .inr (1, [.ref obd_0, .int o_2, .int o_3])), (obd_0, .inl (k 0, 8, .inl o_4)), (tn, .inr (10, [.int tnv0, .int tnv1, .int tnv2, .ref tn_3, .ref tn_4, .ref tn_5, .ref tn_6, .int tnv7, .int tnv8, .ref tn_9, .ref tn_10, .int tnv11, .ref tn_12, .ref tn_13, .ref tn_14, .ref tn_15, .int tnv16, .ref tn_17, .ref tn_18, .ref tnt]))]) [0, 1, 2, 3, 4, 5, 6] (by decide +kernel) rfl, hS, lv_sub hl [3, 4, 5, 2, 1, 0] rfl⟩
      clear hP hD hS hl
      obtain ⟨L49l4, L49l5, en_22, zL49l5, hP, hD, hS, hl⟩ := hI
      refine lv_iload hx hb dX6_weigh_49 (lv_at hl 5 rfl) ?_
      refine lv_aload_n hx hb dX6_weigh_51 rfl (lv_at hl 1 rfl) ?_
      refine va_get (D := D) (ci := 10) (v := .int tnv0) (C := RX10) (T := TX10) (N := 20) hx hb hts iT_X10 hown hK hP 6 rfl rfl 0 (by decide) (hts _ tw_1_68) (fun _ h9 => h9) rfl dX6_weigh_52 ?_
      refine lv_icmp_ge (tgt := 79) hx hb dX6_weigh_55 (by decide) (fun h_23 => ?_) (fun h_23 => ?_)
      · skip
        have zh_23 : tnv0.toInt ≤ L49l5.toInt := z_le h_23
        refine lv_aload_n hx hb dX6_weigh_79 rfl (lv_at hl 0 rfl) ?_
        refine lv_aload_n hx hb dX6_weigh_80 rfl (lv_at hl 0 rfl) ?_
        refine va_get (D := D) (ci := 6) (v := .int obv2) (C := RX6) (T := TX6) (N := 4) hx hb hts iT_X6 hown hK hP 0 rfl rfl 2 (by decide) (hts _ tw_2_130) (fun _ h9 => h9) rfl dX6_weigh_81 ?_
        refine lv_iload hx hb dX6_weigh_84 (lv_at hl 4 rfl) ?_
        obtain ⟨hPc, hDc, hFc⟩ := sub3 hP hD hS hA (ws' := []) [] (by decide +kernel) rfl
        refine va_calli (va_runS (As := [.int obv2, .int L49l4]) (rest := [.ref ob]) ⟨hx, hb, hml, hown, hts⟩ (c_J9_min_7cf53 l D k obv2 L49l4 H.size) (va_cwS 2 hts (gS tw_5_49 tw_3_17 tw_1_14 tw_3_18) rfl rfl rfl hdS_J9_min_7cf53 ⟨Nat.le_of_ble_eq_true rfl, Nat.le_of_ble_eq_true rfl⟩) (cz_S hK hPc hDc hN [.int obv2, .int L49l4]) rfl rfl hl.1 rfl (lv_room (Nat.le_of_ble_eq_true rfl)) dX6_weigh_86 ⟨Nat.le_of_ble_eq_true rfl, Nat.le_of_ble_eq_true rfl⟩) hS (fun q _ h => hFc q h) hFc (fun r_24 uZ tZ H1 locs ht hvm hw hB hz1 hk1 hS => ?_)
        obtain ⟨hP1, hK1, hD1⟩ := hB
        rw [ht] at hP1
        obtain ⟨hP, hD⟩ := va_join (wr := [(ob, .inr (6, [.int r_7, .int p1, .int obv2, .ref obd])), (tn_3, .inl (k 0, 10, .inl tng3)), (tn_4, .inl (k 0, 10, .inl tng4)), (tn_5, .inl (k 0, 10, .inl tng5)), (obd, .inr (1, [.ref obd_0, .int o_2, .int o_3])), (obd_0, .inl (k 0, 8, .inl o_4)), (tn, .inr (10, [.int tnv0, .int tnv1, .int tnv2, .ref tn_3, .ref tn_4, .ref tn_5, .ref tn_6, .int tnv7, .int tnv8, .ref tn_9, .ref tn_10, .int tnv11, .ref tn_12, .ref tn_13, .ref tn_14, .ref tn_15, .int tnv16, .ref tn_17, .ref tn_18, .ref tnt]))]) (w1 := []) hP hD [] [0, 1, 2, 3, 4, 5, 6] rfl rfl (by decide +kernel) (by decide +kernel) hk1 hFc hP1 hD1
        clear hK1 hP1 hD1 hPc hDc hFc
        clear hk1 hz1 ht hvm
        have hP : va_P D vwCl [(ob, .inr (6, [.int r_7, .int p1, .int obv2, .ref obd])), (tn_3, .inl (k 0, 10, .inl tng3)), (tn_4, .inl (k 0, 10, .inl tng4)), (tn_5, .inl (k 0, 10, .inl tng5)), (obd, .inr (1, [.ref obd_0, .int o_2, .int o_3])), (obd_0, .inl (k 0, 8, .inl o_4)), (tn, .inr (10, [.int tnv0, .int tnv1, .int tnv2, .ref tn_3, .ref tn_4, .ref tn_5, .ref tn_6, .int tnv7, .int tnv8, .ref tn_9, .ref tn_10, .int tnv11, .ref tn_12, .ref tn_13, .ref tn_14, .ref tn_15, .int tnv16, .ref tn_17, .ref tn_18, .ref tnt]))] H1 := hP
        have hD : va_D A [(ob, .inr (6, [.int r_7, .int p1, .int obv2, .ref obd])), (tn_3, .inl (k 0, 10, .inl tng3)), (tn_4, .inl (k 0, 10, .inl tng4)), (tn_5, .inl (k 0, 10, .inl tng5)), (obd, .inr (1, [.ref obd_0, .int o_2, .int o_3])), (obd_0, .inl (k 0, 8, .inl o_4)), (tn, .inr (10, [.int tnv0, .int tnv1, .int tnv2, .ref tn_3, .ref tn_4, .ref tn_5, .ref tn_6, .int tnv7, .int tnv8, .ref tn_9, .ref tn_10, .int tnv11, .ref tn_12, .ref tn_13, .ref tn_14, .ref tn_15, .int tnv16, .ref tn_17, .ref tn_18, .ref tnt]))] := hD
        generalize H1 = H at hP hS ⊢
        have hw_25 : (r_24.toInt ≤ obv2.toInt ∧ r_24.toInt ≤ L49l4.toInt ∧ (r_24.toInt = obv2.toInt ∨ r_24.toInt = L49l4.toInt)) := hw
        have hw_26 := hw_25
        clear hw
        refine va_put (D := D) (ci := 6) (v := .int r_24) (ty := tyX6 2) (C := RX6) (T := TX6) (N := 4) hx hb hts iT_X6 tyX6 tyX6_ok nmX6 hown hK hP hD hS 0 rfl rfl 2 (by decide) (hts _ tw_2_130) (fun _ h9 => h9) rfl (tyX6_ok 2 (by decide)) rfl rfl (Nat.le_of_ble_eq_true rfl) dX6_weigh_89 (fun H locs hP hD hS => ?_)
        have hP : va_P D vwCl [(ob, .inr (6, [.int r_7, .int p1, .int r_24, .ref obd])), (tn_3, .inl (k 0, 10, .inl tng3)), (tn_4, .inl (k 0, 10, .inl tng4)), (tn_5, .inl (k 0, 10, .inl tng5)), (obd, .inr (1, [.ref obd_0, .int o_2, .int o_3])), (obd_0, .inl (k 0, 8, .inl o_4)), (tn, .inr (10, [.int tnv0, .int tnv1, .int tnv2, .ref tn_3, .ref tn_4, .ref tn_5, .ref tn_6, .int tnv7, .int tnv8, .ref tn_9, .ref tn_10, .int tnv11, .ref tn_12, .ref tn_13, .ref tn_14, .ref tn_15, .int tnv16, .ref tn_17, .ref tn_18, .ref tnt]))] H := hP
        have hD : va_D A [(ob, .inr (6, [.int r_7, .int p1, .int r_24, .ref obd])), (tn_3, .inl (k 0, 10, .inl tng3)), (tn_4, .inl (k 0, 10, .inl tng4)), (tn_5, .inl (k 0, 10, .inl tng5)), (obd, .inr (1, [.ref obd_0, .int o_2, .int o_3])), (obd_0, .inl (k 0, 8, .inl o_4)), (tn, .inr (10, [.int tnv0, .int tnv1, .int tnv2, .ref tn_3, .ref tn_4, .ref tn_5, .ref tn_6, .int tnv7, .int tnv8, .ref tn_9, .ref tn_10, .int tnv11, .ref tn_12, .ref tn_13, .ref tn_14, .ref tn_15, .int tnv16, .ref tn_17, .ref tn_18, .ref tnt]))] := hD
        obtain ⟨hP9, hD9⟩ := sub2 hP hD (ws' := [(ob, .inr (6, [.int r_7, .int p1, .int r_24, .ref obd])), (obd, .inr (1, [.ref obd_0, .int o_2, .int o_3])), (obd_0, .inl (k 0, 8, .inl o_4)), (tn, .inr (10, [.int tnv0, .int tnv1, .int tnv2, .ref tn_3, .ref tn_4, .ref tn_5, .ref tn_6, .int tnv7, .int tnv8, .ref tn_9, .ref tn_10, .int tnv11, .ref tn_12, .ref tn_13, .ref tn_14, .ref tn_15, .int tnv16, .ref tn_17, .ref tn_18, .ref tnt])), (tn_3, .inl (k 0, 10, .inl tng3)), (tn_4, .inl (k 0, 10, .inl tng4)), (tn_5, .inl (k 0, 10, .inl tng5))]) [0, 4, 5, 6, 1, 2, 3] (by decide +kernel) rfl
        exact W.vret hx hb hr (fun tZ ht hW => ⟨⟨(r_24, o_2, o_3, o_4, r_7, p1), rfl, hw_6, by rw [ht]; exact hP9, va_K.moved hW.alike hK, hD9⟩, hS.F ht⟩) hS.2.2 dX6_weigh_92
      · skip
        have zh_23 : L49l5.toInt < tnv0.toInt := z_nle h_23
        refine lv_iload hx hb dX6_weigh_58 (lv_at hl 4 rfl) ?_
        refine lv_aload_n hx hb dX6_weigh_60 rfl (lv_at hl 0 rfl) ?_
        refine va_get (D := D) (ci := 6) (v := .ref obd) (C := RX6) (T := TX6) (N := 4) hx hb hts iT_X6 hown hK hP 0 rfl rfl 3 (by decide) (hts _ tw_2_132) (fun _ h9 => h9) rfl dX6_weigh_61 ?_
        refine va_get (D := D) (ci := 1) (v := .ref obd_0) (C := RX1) (T := TX1) (N := 3) hx hb hts iT_X1 hown hK hP 4 rfl rfl 0 (by decide) (hts _ tw_2_20) (fun _ h9 => h9) rfl dX6_weigh_64 ?_
        refine lv_iload hx hb dX6_weigh_67 (lv_at hl 5 rfl) ?_
        refine va_iald hx hb hK hP 5 0 rfl rfl (z_in (by omega) (by omega)) dX6_weigh_69 ?_
        refine lv_topi (fun x_27 ex_27 => ?_)
        have zx_27r0 : 0 ≤ x_27.toInt ∧ x_27.toInt ≤ 1000000 := by rw [ex_27]; exact PR.ld hw_6 (by omega) (by omega) (by omega)
        refine lv_iadd hx hb dX6_weigh_70 ?_
        refine lv_topi (fun x_28 ex_28 => ?_)
        have zrL49l4 := z_rng L49l4
        refine lv_istore (lv' := [(4, .int x_28), (0, .ref ob), (1, .ref tn), (2, .int p1), (3, .int r_7), (5, .int L49l5)]) hx hb dX6_weigh_71 hl (by decide) rfl (fun ls hl => ?_)
        obtain ⟨x_29, ex_29⟩ : ∃ y : Int32, y = L49l5 + 1 := ⟨_, rfl⟩
        have zx_29 : x_29.toInt = L49l5.toInt + 1 := by rw [ex_29]; exact z_add rfl rfl (by omega) (by omega)
        refine lv_iinc (v := x_29) (lv' := [(5, .int x_29), (4, .int x_28), (0, .ref ob), (1, .ref tn), (2, .int p1), (3, .int r_7)]) hx hb dX6_weigh_73 hl (k := 5) rfl (by rw [ex_29]; rfl) (by decide) rfl (fun ls hl => ?_)
        refine lv_goto (tgt := 49) hx hb dX6_weigh_76 (by decide) ?_
        exact ih_21 _ _ _ _ (by omega) ⟨x_28, x_29, rfl, (show 0 ≤ x_29.toInt ∧ x_29.toInt ≤ 8 from by omega), hP.sub (ws' := [(ob, .inr (6, [.int r_7, .int p1, .int obv2, .ref obd])), (tn_3, .inl (k 0, 10, .inl tng3)), (tn_4, .inl (k 0, 10, .inl tng4)), (tn_5, .inl (k 0, 10, .inl tng5)), (obd, .inr (1, [.ref obd_0, .int o_2, .int o_3])), (obd_0, .inl (k 0, 8, .inl o_4)), (tn, .inr (10, [.int tnv0, .int tnv1, .int tnv2, .ref tn_3, .ref tn_4, .ref tn_5, .ref tn_6, .int tnv7, .int tnv8, .ref tn_9, .ref tn_10, .int tnv11, .ref tn_12, .ref tn_13, .ref tn_14, .ref tn_15, .int tnv16, .ref tn_17, .ref tn_18, .ref tnt]))]) [0, 1, 2, 3, 4, 5, 6] rfl, hD.sub (ws' := [(ob, .inr (6, [.int r_7, .int p1, .int obv2, .ref obd])), (tn_3, .inl (k 0, 10, .inl tng3)), (tn_4, .inl (k 0, 10, .inl tng4)), (tn_5, .inl (k 0, 10, .inl tng5)), (obd, .inr (1, [.ref obd_0, .int o_2, .int o_3])), (obd_0, .inl (k 0, 8, .inl o_4)), (tn, .inr (10, [.int tnv0, .int tnv1, .int tnv2, .ref tn_3, .ref tn_4, .ref tn_5, .ref tn_6, .int tnv7, .int tnv8, .ref tn_9, .ref tn_10, .int tnv11, .ref tn_12, .ref tn_13, .ref tn_14, .ref tn_15, .int tnv16, .ref tn_17, .ref tn_18, .ref tnt]))]) [0, 1, 2, 3, 4, 5, 6] (by decide +kernel) rfl, hS, lv_sub hl [2, 3, 4, 5, 1, 0] rfl⟩
  · skip
    have zh_10 : 1000000 ≤ r_7.toInt := z_nlt h_10
    obtain ⟨hP9, hD9⟩ := sub2 hP hD (ws' := [(ob, .inr (6, [.int obv0, .int obv1, .int obv2, .ref obd])), (obd, .inr (1, [.ref obd_0, .int o_2, .int o_3])), (obd_0, .inl (k 0, 8, .inl o_4)), (tn, .inr (10, [.int tnv0, .int tnv1, .int tnv2, .ref tn_3, .ref tn_4, .ref tn_5, .ref tn_6, .int tnv7, .int tnv8, .ref tn_9, .ref tn_10, .int tnv11, .ref tn_12, .ref tn_13, .ref tn_14, .ref tn_15, .int tnv16, .ref tn_17, .ref tn_18, .ref tnt])), (tn_3, .inl (k 0, 10, .inl tng3)), (tn_4, .inl (k 0, 10, .inl tng4)), (tn_5, .inl (k 0, 10, .inl tng5))]) [0, 4, 5, 6, 1, 2, 3] (by decide +kernel) rfl
    exact W.vret hx hb hr (fun tZ ht hW => ⟨⟨(obv2, o_2, o_3, o_4, obv0, obv1), rfl, hw_6, by rw [ht]; exact hP9, va_K.moved hW.alike hK, hD9⟩, hS.F ht⟩) hS.2.2 dX6_weigh_24
set_option maxHeartbeats 4000000 in
set_option maxRecDepth 100000 in
theorem c_X6_search (l : Launch) (D : va_G) (k : Nat → ClassId) (ob : Nat) (tn : Nat) (p1 : Int32) (obv0 : Int32) (obv1 : Int32) (obv2 : Int32) (obd : Nat) (obd_0 : Nat) (obdv1 : Int32) (obdv2 : Int32) (obdg0 : Nat → Int32) (tnv0 : Int32) (tnv1 : Int32) (tnv2 : Int32) (tn_3 : Nat) (tn_4 : Nat) (tn_5 : Nat) (tn_6 : Nat) (tnv7 : Int32) (tnv8 : Int32) (tn_9 : Nat) (tn_10 : Nat) (tnv11 : Int32) (tn_12 : Nat) (tn_13 : Nat) (tn_14 : Nat) (tn_15 : Nat) (tnv16 : Int32) (tn_17 : Nat) (tn_18 : Nat) (tnt : Nat) (tng3 : Nat → Int32) (tng4 : Nat → Int32) (tng5 : Nat → Int32) (sz : Nat) (hp_obdg0_0 : PR 8 1 0 0 1000000 obdg0) (h_tnv0 : 0 ≤ tnv0.toInt ∧ tnv0.toInt ≤ 8) (h_tnv2 : 0 ≤ tnv2.toInt ∧ tnv2.toInt ≤ 10) (h_tnv8 : 0 ≤ tnv8.toInt ∧ tnv8.toInt ≤ 4) (h_tnv11 : 0 ≤ tnv11.toInt ∧ tnv11.toInt ≤ 6) (h_tnv16 : 0 ≤ tnv16.toInt ∧ tnv16.toInt ≤ 2) (hp_tng3_0 : PR 10 1 0 0 7 tng3) (hp_tng4_0 : PR 10 1 0 0 7 tng4) (hp_tng5_0 : PR 10 1 0 0 60 tng5) : Met l yX6_search (ww yX6_search cX6_search 5 none) ({ frames := 4, cells := 0, slots := 0, locals := 99 }) (Pre0 D k [(ob, .inr (6, [.int obv0, .int obv1, .int obv2, .ref obd])), (obd, .inr (1, [.ref obd_0, .int obdv1, .int obdv2])), (obd_0, .inl (k 0, 8, .inl obdg0)), (tn, .inr (10, [.int tnv0, .int tnv1, .int tnv2, .ref tn_3, .ref tn_4, .ref tn_5, .ref tn_6, .int tnv7, .int tnv8, .ref tn_9, .ref tn_10, .int tnv11, .ref tn_12, .ref tn_13, .ref tn_14, .ref tn_15, .int tnv16, .ref tn_17, .ref tn_18, .ref tnt])), (tn_3, .inl (k 0, 10, .inl tng3)), (tn_4, .inl (k 0, 10, .inl tng4)), (tn_5, .inl (k 0, 10, .inl tng5))] sz [.ref ob, .ref tn, .int p1]) (va_Qv (fun (u : Int32 × Int32 × Int32 × Int32 × Int32 × (Nat → Int32)) => match u with | (obv0z, obv1z, obv2z, obdv1z, obdv2z, obdg0z) => (PR 8 1 0 0 1000000 obdg0z)) (fun (u : Int32 × Int32 × Int32 × Int32 × Int32 × (Nat → Int32)) tZ => match u with | (obv0z, obv1z, obv2z, obdv1z, obdv2z, obdg0z) => Bw D k (va_A [(ob, .inr (6, [.int obv0, .int obv1, .int obv2, .ref obd])), (obd, .inr (1, [.ref obd_0, .int obdv1, .int obdv2])), (obd_0, .inl (k 0, 8, .inl obdg0)), (tn, .inr (10, [.int tnv0, .int tnv1, .int tnv2, .ref tn_3, .ref tn_4, .ref tn_5, .ref tn_6, .int tnv7, .int tnv8, .ref tn_9, .ref tn_10, .int tnv11, .ref tn_12, .ref tn_13, .ref tn_14, .ref tn_15, .int tnv16, .ref tn_17, .ref tn_18, .ref tnt])), (tn_3, .inl (k 0, 10, .inl tng3)), (tn_4, .inl (k 0, 10, .inl tng4)), (tn_5, .inl (k 0, 10, .inl tng5))] sz) [(ob, .inr (6, [.int obv0z, .int obv1z, .int obv2z, .ref obd])), (obd, .inr (1, [.ref obd_0, .int obdv1z, .int obdv2z])), (obd_0, .inl (k 0, 8, .inl obdg0z)), (tn, .inr (10, [.int tnv0, .int tnv1, .int tnv2, .ref tn_3, .ref tn_4, .ref tn_5, .ref tn_6, .int tnv7, .int tnv8, .ref tn_9, .ref tn_10, .int tnv11, .ref tn_12, .ref tn_13, .ref tn_14, .ref tn_15, .int tnv16, .ref tn_17, .ref tn_18, .ref tnt])), (tn_3, .inl (k 0, 10, .inl tng3)), (tn_4, .inl (k 0, 10, .inl tng4)), (tn_5, .inl (k 0, 10, .inl tng5))] tZ) (va_A [(ob, .inr (6, [.int obv0, .int obv1, .int obv2, .ref obd])), (obd, .inr (1, [.ref obd_0, .int obdv1, .int obdv2])), (obd_0, .inl (k 0, 8, .inl obdg0)), (tn, .inr (10, [.int tnv0, .int tnv1, .int tnv2, .ref tn_3, .ref tn_4, .ref tn_5, .ref tn_6, .int tnv7, .int tnv8, .ref tn_9, .ref tn_10, .int tnv11, .ref tn_12, .ref tn_13, .ref tn_14, .ref tn_15, .int tnv16, .ref tn_17, .ref tn_18, .ref tnt])), (tn_3, .inl (k 0, 10, .inl tng3)), (tn_4, .inl (k 0, 10, .inl tng4)), (tn_5, .inl (k 0, 10, .inl tng5))] sz)) 0 0 (va_A [(ob, .inr (6, [.int obv0, .int obv1, .int obv2, .ref obd])), (obd, .inr (1, [.ref obd_0, .int obdv1, .int obdv2])), (obd_0, .inl (k 0, 8, .inl obdg0)), (tn, .inr (10, [.int tnv0, .int tnv1, .int tnv2, .ref tn_3, .ref tn_4, .ref tn_5, .ref tn_6, .int tnv7, .int tnv8, .ref tn_9, .ref tn_10, .int tnv11, .ref tn_12, .ref tn_13, .ref tn_14, .ref tn_15, .int tnv16, .ref tn_17, .ref tn_18, .ref tnt])), (tn_3, .inl (k 0, 10, .inl tng3)), (tn_4, .inl (k 0, 10, .inl tng4)), (tn_5, .inl (k 0, 10, .inl tng5))] sz) := by
  refine Met.ofW (cc := cX6_search) (maxL := 5) (ret := none) (by decide +kernel) rfl ?_
  intro p e s m args below meth c s₁ B hml hv
  obtain ⟨rfl, hsz, hP, hK, hD0, hN⟩ := hv
  have hx := B.exec
  have hb := B.bytes
  have hr := B.returns
  have hts : ∀ w ∈ TT, w.before _ s = true := fun w h => atoms_spec (ws := ww yX6_search cX6_search 5 none) B.pre w (List.mem_cons_of_mem _ h)
  have hown : s.vm.findClass RX6 = some m.cls := findClass_of_methodNamed B.named
  have hlocks := B.notSynchronized
  subst hsz
  have hD := hD0.self (sz := s.heap.size)
  generalize hAe : va_A [(ob, .inr (6, [.int obv0, .int obv1, .int obv2, .ref obd])), (obd, .inr (1, [.ref obd_0, .int obdv1, .int obdv2])), (obd_0, .inl (k 0, 8, .inl obdg0)), (tn, .inr (10, [.int tnv0, .int tnv1, .int tnv2, .ref tn_3, .ref tn_4, .ref tn_5, .ref tn_6, .int tnv7, .int tnv8, .ref tn_9, .ref tn_10, .int tnv11, .ref tn_12, .ref tn_13, .ref tn_14, .ref tn_15, .int tnv16, .ref tn_17, .ref tn_18, .ref tnt])), (tn_3, .inl (k 0, 10, .inl tng3)), (tn_4, .inl (k 0, 10, .inl tng4)), (tn_5, .inl (k 0, 10, .inl tng5))] s.heap.size = A at hD ⊢
  have hA : ∀ q : Nat, s.heap.size ≤ q → A q := fun q h => by rw [← hAe]; exact Or.inr h
  have hS : va_S A s.heap s.heap [] := va_S.rf
  have hl := lv_entry ([.ref ob, .ref tn, .int p1]) (n := 5) (Nat.le_of_ble_eq_true rfl)
  rw [lg_entry_eq]
  generalize (lg_sl ([.ref ob, .ref tn, .int p1]) ++ List.replicate (5 - (lg_sl ([.ref ob, .ref tn, .int p1])).length) Slot.unset).toArray = ls at hl ⊢
  have hl : lv_has ls 5 [(0, .ref ob), (1, .ref tn), (2, .int p1)] := hl
  refine lv_aload_n hx hb dX6_search_0 rfl (lv_at hl 0 rfl) ?_
  refine lv_ldc (v := 1000000) hx hb hown (hts _ tw_2_123) dX6_search_1 ?_
  refine va_put (D := D) (ci := 6) (v := .int 1000000) (ty := tyX6 0) (C := RX6) (T := TX6) (N := 4) hx hb hts iT_X6 tyX6 tyX6_ok nmX6 hown hK hP hD hS 0 rfl rfl 0 (by decide) (hts _ tw_2_126) (fun _ h9 => h9) rfl (tyX6_ok 0 (by decide)) rfl rfl (Nat.le_of_ble_eq_true rfl) dX6_search_3 (fun H locs hP hD hS => ?_)
  have hP : va_P D vwCl [(ob, .inr (6, [.int 1000000, .int obv1, .int obv2, .ref obd])), (obd, .inr (1, [.ref obd_0, .int obdv1, .int obdv2])), (obd_0, .inl (k 0, 8, .inl obdg0)), (tn, .inr (10, [.int tnv0, .int tnv1, .int tnv2, .ref tn_3, .ref tn_4, .ref tn_5, .ref tn_6, .int tnv7, .int tnv8, .ref tn_9, .ref tn_10, .int tnv11, .ref tn_12, .ref tn_13, .ref tn_14, .ref tn_15, .int tnv16, .ref tn_17, .ref tn_18, .ref tnt])), (tn_3, .inl (k 0, 10, .inl tng3)), (tn_4, .inl (k 0, 10, .inl tng4)), (tn_5, .inl (k 0, 10, .inl tng5))] H := hP
  have hD : va_D A [(ob, .inr (6, [.int 1000000, .int obv1, .int obv2, .ref obd])), (obd, .inr (1, [.ref obd_0, .int obdv1, .int obdv2])), (obd_0, .inl (k 0, 8, .inl obdg0)), (tn, .inr (10, [.int tnv0, .int tnv1, .int tnv2, .ref tn_3, .ref tn_4, .ref tn_5, .ref tn_6, .int tnv7, .int tnv8, .ref tn_9, .ref tn_10, .int tnv11, .ref tn_12, .ref tn_13, .ref tn_14, .ref tn_15, .int tnv16, .ref tn_17, .ref tn_18, .ref tnt])), (tn_3, .inl (k 0, 10, .inl tng3)), (tn_4, .inl (k 0, 10, .inl tng4)), (tn_5, .inl (k 0, 10, .inl tng5))] := hD
  refine lv_aload_n hx hb dX6_search_6 rfl (lv_at hl 0 rfl) ?_
  refine lv_iconst (v := (-1)) hx hb dX6_search_7 (by decide) ?_
  refine va_put (D := D) (ci := 6) (v := .int (-1)) (ty := tyX6 1) (C := RX6) (T := TX6) (N := 4) hx hb hts iT_X6 tyX6 tyX6_ok nmX6 hown hK hP hD hS 0 rfl rfl 1 (by decide) (hts _ tw_2_128) (fun _ h9 => h9) rfl (tyX6_ok 1 (by decide)) rfl rfl (Nat.le_of_ble_eq_true rfl) dX6_search_8 (fun H locs hP hD hS => ?_)
  have hP : va_P D vwCl [(ob, .inr (6, [.int 1000000, .int (-1), .int obv2, .ref obd])), (obd, .inr (1, [.ref obd_0, .int obdv1, .int obdv2])), (obd_0, .inl (k 0, 8, .inl obdg0)), (tn, .inr (10, [.int tnv0, .int tnv1, .int tnv2, .ref tn_3, .ref tn_4, .ref tn_5, .ref tn_6, .int tnv7, .int tnv8, .ref tn_9, .ref tn_10, .int tnv11, .ref tn_12, .ref tn_13, .ref tn_14, .ref tn_15, .int tnv16, .ref tn_17, .ref tn_18, .ref tnt])), (tn_3, .inl (k 0, 10, .inl tng3)), (tn_4, .inl (k 0, 10, .inl tng4)), (tn_5, .inl (k 0, 10, .inl tng5))] H := hP
  have hD : va_D A [(ob, .inr (6, [.int 1000000, .int (-1), .int obv2, .ref obd])), (obd, .inr (1, [.ref obd_0, .int obdv1, .int obdv2])), (obd_0, .inl (k 0, 8, .inl obdg0)), (tn, .inr (10, [.int tnv0, .int tnv1, .int tnv2, .ref tn_3, .ref tn_4, .ref tn_5, .ref tn_6, .int tnv7, .int tnv8, .ref tn_9, .ref tn_10, .int tnv11, .ref tn_12, .ref tn_13, .ref tn_14, .ref tn_15, .int tnv16, .ref tn_17, .ref tn_18, .ref tnt])), (tn_3, .inl (k 0, 10, .inl tng3)), (tn_4, .inl (k 0, 10, .inl tng4)), (tn_5, .inl (k 0, 10, .inl tng5))] := hD
  refine lv_aload_n hx hb dX6_search_11 rfl (lv_at hl 0 rfl) ?_
  refine lv_ldc (v := 1000000) hx hb hown (hts _ tw_2_123) dX6_search_12 ?_
  refine va_put (D := D) (ci := 6) (v := .int 1000000) (ty := tyX6 2) (C := RX6) (T := TX6) (N := 4) hx hb hts iT_X6 tyX6 tyX6_ok nmX6 hown hK hP hD hS 0 rfl rfl 2 (by decide) (hts _ tw_2_130) (fun _ h9 => h9) rfl (tyX6_ok 2 (by decide)) rfl rfl (Nat.le_of_ble_eq_true rfl) dX6_search_14 (fun H locs hP hD hS => ?_)
  have hP : va_P D vwCl [(ob, .inr (6, [.int 1000000, .int (-1), .int 1000000, .ref obd])), (obd, .inr (1, [.ref obd_0, .int obdv1, .int obdv2])), (obd_0, .inl (k 0, 8, .inl obdg0)), (tn, .inr (10, [.int tnv0, .int tnv1, .int tnv2, .ref tn_3, .ref tn_4, .ref tn_5, .ref tn_6, .int tnv7, .int tnv8, .ref tn_9, .ref tn_10, .int tnv11, .ref tn_12, .ref tn_13, .ref tn_14, .ref tn_15, .int tnv16, .ref tn_17, .ref tn_18, .ref tnt])), (tn_3, .inl (k 0, 10, .inl tng3)), (tn_4, .inl (k 0, 10, .inl tng4)), (tn_5, .inl (k 0, 10, .inl tng5))] H := hP
  have hD : va_D A [(ob, .inr (6, [.int 1000000, .int (-1), .int 1000000, .ref obd])), (obd, .inr (1, [.ref obd_0, .int obdv1, .int obdv2])), (obd_0, .inl (k 0, 8, .inl obdg0)), (tn, .inr (10, [.int tnv0, .int tnv1, .int tnv2, .ref tn_3, .ref tn_4, .ref tn_5, .ref tn_6, .int tnv7, .int tnv8, .ref tn_9, .ref tn_10, .int tnv11, .ref tn_12, .ref tn_13, .ref tn_14, .ref tn_15, .int tnv16, .ref tn_17, .ref tn_18, .ref tnt])), (tn_3, .inl (k 0, 10, .inl tng3)), (tn_4, .inl (k 0, 10, .inl tng4)), (tn_5, .inl (k 0, 10, .inl tng5))] := hD
  refine lv_iload_n hx hb dX6_search_17 rfl (lv_at hl 2 rfl) ?_
  refine lv_aload_n hx hb dX6_search_18 rfl (lv_at hl 1 rfl) ?_
  refine va_get (D := D) (ci := 10) (v := .int tnv0) (C := RX10) (T := TX10) (N := 20) hx hb hts iT_X10 hown hK hP 3 rfl rfl 0 (by decide) (hts _ tw_1_68) (fun _ h9 => h9) rfl dX6_search_19 ?_
  obtain ⟨hPc, hDc, hFc⟩ := sub3 hP hD hS hA (ws' := []) [] (by decide +kernel) rfl
  refine va_calli (va_runS (As := [.int p1, .int tnv0]) (rest := []) ⟨hx, hb, hml, hown, hts⟩ (c_J9_min_7cf53 l D k p1 tnv0 H.size) (va_cwS 2 hts (gS tw_5_49 tw_3_17 tw_1_14 tw_3_18) rfl rfl rfl hdS_J9_min_7cf53 ⟨Nat.le_of_ble_eq_true rfl, Nat.le_of_ble_eq_true rfl⟩) (cz_S hK hPc hDc hN [.int p1, .int tnv0]) rfl rfl hl.1 rfl (lv_room (Nat.le_of_ble_eq_true rfl)) dX6_search_22 ⟨Nat.le_of_ble_eq_true rfl, Nat.le_of_ble_eq_true rfl⟩) hS (fun q _ h => hFc q h) hFc (fun r_1 uZ tZ H1 locs ht hvm hw hB hz1 hk1 hS => ?_)
  obtain ⟨hP1, hK1, hD1⟩ := hB
  rw [ht] at hP1
  obtain ⟨hP, hD⟩ := va_join (wr := [(ob, .inr (6, [.int 1000000, .int (-1), .int 1000000, .ref obd])), (obd, .inr (1, [.ref obd_0, .int obdv1, .int obdv2])), (obd_0, .inl (k 0, 8, .inl obdg0)), (tn, .inr (10, [.int tnv0, .int tnv1, .int tnv2, .ref tn_3, .ref tn_4, .ref tn_5, .ref tn_6, .int tnv7, .int tnv8, .ref tn_9, .ref tn_10, .int tnv11, .ref tn_12, .ref tn_13, .ref tn_14, .ref tn_15, .int tnv16, .ref tn_17, .ref tn_18, .ref tnt])), (tn_3, .inl (k 0, 10, .inl tng3)), (tn_4, .inl (k 0, 10, .inl tng4)), (tn_5, .inl (k 0, 10, .inl tng5))]) (w1 := []) hP hD [] [0, 1, 2, 3, 4, 5, 6] rfl rfl (by decide +kernel) (by decide +kernel) hk1 hFc hP1 hD1
  clear hK1 hP1 hD1 hPc hDc hFc
  clear hk1 hz1 ht hvm
  have hP : va_P D vwCl [(ob, .inr (6, [.int 1000000, .int (-1), .int 1000000, .ref obd])), (obd, .inr (1, [.ref obd_0, .int obdv1, .int obdv2])), (obd_0, .inl (k 0, 8, .inl obdg0)), (tn, .inr (10, [.int tnv0, .int tnv1, .int tnv2, .ref tn_3, .ref tn_4, .ref tn_5, .ref tn_6, .int tnv7, .int tnv8, .ref tn_9, .ref tn_10, .int tnv11, .ref tn_12, .ref tn_13, .ref tn_14, .ref tn_15, .int tnv16, .ref tn_17, .ref tn_18, .ref tnt])), (tn_3, .inl (k 0, 10, .inl tng3)), (tn_4, .inl (k 0, 10, .inl tng4)), (tn_5, .inl (k 0, 10, .inl tng5))] H1 := hP
  have hD : va_D A [(ob, .inr (6, [.int 1000000, .int (-1), .int 1000000, .ref obd])), (obd, .inr (1, [.ref obd_0, .int obdv1, .int obdv2])), (obd_0, .inl (k 0, 8, .inl obdg0)), (tn, .inr (10, [.int tnv0, .int tnv1, .int tnv2, .ref tn_3, .ref tn_4, .ref tn_5, .ref tn_6, .int tnv7, .int tnv8, .ref tn_9, .ref tn_10, .int tnv11, .ref tn_12, .ref tn_13, .ref tn_14, .ref tn_15, .int tnv16, .ref tn_17, .ref tn_18, .ref tnt])), (tn_3, .inl (k 0, 10, .inl tng3)), (tn_4, .inl (k 0, 10, .inl tng4)), (tn_5, .inl (k 0, 10, .inl tng5))] := hD
  generalize H1 = H at hP hS ⊢
  have hw_2 : (r_1.toInt ≤ p1.toInt ∧ r_1.toInt ≤ tnv0.toInt ∧ (r_1.toInt = p1.toInt ∨ r_1.toInt = tnv0.toInt)) := hw
  have hw_3 := hw_2
  clear hw
  refine lv_istore_n (lv' := [(3, .int r_1), (0, .ref ob), (1, .ref tn), (2, .int p1)]) hx hb dX6_search_25 rfl hl (by decide) rfl (fun ls hl => ?_)
  refine lv_iconst (v := 0) hx hb dX6_search_26 (by decide) ?_
  refine lv_istore (lv' := [(4, .int 0), (3, .int r_1), (0, .ref ob), (1, .ref tn), (2, .int p1)]) hx hb dX6_search_27 hl (by decide) rfl (fun ls hl => ?_)
  refine loop_r (Wg := fun H locs ls => W p l e _ s m _ below meth c H locs _ _ _ (F0 m 29 ls [])) (fun n9 H locs ls => ∃ (L29l4 : Int32) (L29f0x0 : Int32) (L29f0x1 : Int32) (L29f0x2 : Int32) (L29f1x1 : Int32) (L29f1x2 : Int32) (L29a2 : Nat → Int32), n9 = (256 - L29l4.toInt).toNat ∧ (0 ≤ L29l4.toInt ∧ L29l4.toInt ≤ 256) ∧ (PR 8 1 0 0 1000000 L29a2) ∧ va_P D vwCl [(ob, .inr (6, [.int L29f0x0, .int L29f0x1, .int L29f0x2, .ref obd])), (obd, .inr (1, [.ref obd_0, .int L29f1x1, .int L29f1x2])), (obd_0, .inl (k 0, 8, .inl L29a2)), (tn, .inr (10, [.int tnv0, .int tnv1, .int tnv2, .ref tn_3, .ref tn_4, .ref tn_5, .ref tn_6, .int tnv7, .int tnv8, .ref tn_9, .ref tn_10, .int tnv11, .ref tn_12, .ref tn_13, .ref tn_14, .ref tn_15, .int tnv16, .ref tn_17, .ref tn_18, .ref tnt])), (tn_3, .inl (k 0, 10, .inl tng3)), (tn_4, .inl (k 0, 10, .inl tng4)), (tn_5, .inl (k 0, 10, .inl tng5))] H ∧ va_D A [(ob, .inr (6, [.int L29f0x0, .int L29f0x1, .int L29f0x2, .ref obd])), (obd, .inr (1, [.ref obd_0, .int L29f1x1, .int L29f1x2])), (obd_0, .inl (k 0, 8, .inl L29a2)), (tn, .inr (10, [.int tnv0, .int tnv1, .int tnv2, .ref tn_3, .ref tn_4, .ref tn_5, .ref tn_6, .int tnv7, .int tnv8, .ref tn_9, .ref tn_10, .int tnv11, .ref tn_12, .ref tn_13, .ref tn_14, .ref tn_15, .int tnv16, .ref tn_17, .ref tn_18, .ref tnt])), (tn_3, .inl (k 0, 10, .inl tng3)), (tn_4, .inl (k 0, 10, .inl tng4)), (tn_5, .inl (k 0, 10, .inl tng5))] ∧ va_S A s.heap H locs ∧ lv_has ls 5 [(0, .ref ob), (1, .ref tn), (2, .int p1), (3, .int r_1), (4, .int L29l4)]) (fun n9 H locs ls hI ih_4 => ?_) _ _ _ _ ⟨0, 1000000, (-1), 1000000, obdv1, obdv2, obdg0, rfl, (show 0 ≤ 0 ∧ 0 ≤ 256 from by omega), hp_obdg0_0, hP.sub (ws' := [(ob, .inr (6, [.int 1000000, .int (-1), .int 1000000, .ref obd])), (obd, .inr (1, [.ref obd_0, .int obdv1, .int obdv2])), (obd_0, .inl (k 0, 8, .inl obdg0)), (tn, .inr (10, [.int tnv0, .int tnv1, .int tnv2, .ref tn_3, .ref tn_4, .ref tn_5, .ref tn_6, .int tnv7, .int tnv8, .ref tn_9, .ref tn_10, .int tnv11, .ref tn_12, .ref tn_13, .ref tn_14, .ref tn_15, .int tnv16, .ref tn_17, .ref tn_18, .ref tnt])), (tn_3, .inl (k 0, 10, .inl tng3)), (tn_4, .inl (k 0, 10, .inl tng4)), (tn_5, .inl (k 0, 10, .inl tng5))]) [0, 1, 2, 3, 4, 5, 6] rfl, hD.sub (ws' := [(ob, .inr (6, [.int 1000000, .int (-1), .int 1000000, .ref obd])), (obd, .inr (1, [.ref obd_0, .int obdv1, .int obdv2])), (obd_0, .inl (k 0, 8, .inl obdg0)), (tn, .inr (10, [.int tnv0, .int tnv1, .int tnv2, .ref tn_3, .ref tn_4, .ref tn_5, .ref tn_6, .int tnv7, .int tnv8, .ref tn_9, .ref tn_10, .int tnv11, .ref tn_12, .ref tn_13, .ref tn_14, .ref tn_15, .int tnv16, .ref tn_17, .ref tn_18, .ref tnt])), (tn_3, .inl (k 0, 10, .inl tng3)), (tn_4, .inl (k 0, 10, .inl tng4)), (tn_5, .inl (k 0, 10, .inl tng5))]) [0, 1, 2, 3, 4, 5, 6] (by decide +kernel) rfl, hS, lv_sub hl [2, 3, 4, 1, 0] rfl⟩
  clear hP hD hS hl
  obtain ⟨L29l4, L29f0x0, L29f0x1, L29f0x2, L29f1x1, L29f1x2, L29a2, en_5, zL29l4, L29a2h0, hP, hD, hS, hl⟩ := hI
  refine lv_iload hx hb dX6_search_29 (lv_at hl 4 rfl) ?_
  refine lv_iconst (v := 1) hx hb dX6_search_31 (by decide) ?_
  refine lv_aload_n hx hb dX6_search_32 rfl (lv_at hl 1 rfl) ?_
  refine va_get (D := D) (ci := 10) (v := .int tnv0) (C := RX10) (T := TX10) (N := 20) hx hb hts iT_X10 hown hK hP 3 rfl rfl 0 (by decide) (hts _ tw_1_68) (fun _ h9 => h9) rfl dX6_search_33 ?_
  refine lv_ishl hx hb dX6_search_36 ?_
  refine lv_topi (fun x_6 ex_6 => ?_)
  have zx_6 : 1 ≤ x_6.toInt ∧ x_6.toInt ≤ 256 := by rw [ex_6]; exact z_shl1 8 256 rfl (by decide) (by omega) (by omega)
  refine lv_icmp_ge (tgt := 70) hx hb dX6_search_37 (by decide) (fun h_7 => ?_) (fun h_7 => ?_)
  · skip
    have zh_7 : x_6.toInt ≤ L29l4.toInt := z_le h_7
    obtain ⟨hP9, hD9⟩ := sub2 hP hD (ws' := [(ob, .inr (6, [.int L29f0x0, .int L29f0x1, .int L29f0x2, .ref obd])), (obd, .inr (1, [.ref obd_0, .int L29f1x1, .int L29f1x2])), (obd_0, .inl (k 0, 8, .inl L29a2)), (tn, .inr (10, [.int tnv0, .int tnv1, .int tnv2, .ref tn_3, .ref tn_4, .ref tn_5, .ref tn_6, .int tnv7, .int tnv8, .ref tn_9, .ref tn_10, .int tnv11, .ref tn_12, .ref tn_13, .ref tn_14, .ref tn_15, .int tnv16, .ref tn_17, .ref tn_18, .ref tnt])), (tn_3, .inl (k 0, 10, .inl tng3)), (tn_4, .inl (k 0, 10, .inl tng4)), (tn_5, .inl (k 0, 10, .inl tng5))]) [0, 1, 2, 3, 4, 5, 6] (by decide +kernel) rfl
    exact W.vret hx hb hr (fun tZ ht hW => ⟨⟨(L29f0x0, L29f0x1, L29f0x2, L29f1x1, L29f1x2, L29a2), rfl, L29a2h0, by rw [ht]; exact hP9, va_K.moved hW.alike hK, hD9⟩, hS.F ht⟩) hS.2.2 dX6_search_70
  · skip
    have zh_7 : L29l4.toInt < x_6.toInt := z_nle h_7
    refine lv_iload hx hb dX6_search_40 (lv_at hl 4 rfl) ?_
    refine lv_sipush (v := 256) hx hb dX6_search_42 (by decide) ?_
    refine lv_icmp_ge (tgt := 70) hx hb dX6_search_45 (by decide) (fun h_8 => ?_) (fun h_8 => ?_)
    · skip
      have zh_8 : 256 ≤ L29l4.toInt := z_le h_8
      exact False.elim (by omega)
    · skip
      have zh_8 : L29l4.toInt < 256 := z_nle h_8
      refine lv_iload hx hb dX6_search_48 (lv_at hl 4 rfl) ?_
      obtain ⟨hPc, hDc, hFc⟩ := sub3 hP hD hS hA (ws' := []) [] (by decide +kernel) rfl
      refine va_calli (va_runS (As := [.int L29l4]) (rest := []) ⟨hx, hb, hml, hown, hts⟩ (c_J6_bitCount_0f7a4 l D k L29l4 H.size) (va_cwS 1 hts (gS tw_5_50 tw_4_101 tw_1_20 tw_4_102) rfl rfl rfl hdS_J6_bitCount_0f7a4 ⟨Nat.le_of_ble_eq_true rfl, Nat.le_of_ble_eq_true rfl⟩) (cz_S hK hPc hDc hN [.int L29l4]) rfl rfl hl.1 rfl (lv_room (Nat.le_of_ble_eq_true rfl)) dX6_search_50 ⟨Nat.le_of_ble_eq_true rfl, Nat.le_of_ble_eq_true rfl⟩) hS (fun q _ h => hFc q h) hFc (fun r_9 uZ tZ H1 locs ht hvm hw hB hz1 hk1 hS => ?_)
      obtain ⟨hP1, hK1, hD1⟩ := hB
      rw [ht] at hP1
      obtain ⟨hP, hD⟩ := va_join (wr := [(ob, .inr (6, [.int L29f0x0, .int L29f0x1, .int L29f0x2, .ref obd])), (obd, .inr (1, [.ref obd_0, .int L29f1x1, .int L29f1x2])), (obd_0, .inl (k 0, 8, .inl L29a2)), (tn, .inr (10, [.int tnv0, .int tnv1, .int tnv2, .ref tn_3, .ref tn_4, .ref tn_5, .ref tn_6, .int tnv7, .int tnv8, .ref tn_9, .ref tn_10, .int tnv11, .ref tn_12, .ref tn_13, .ref tn_14, .ref tn_15, .int tnv16, .ref tn_17, .ref tn_18, .ref tnt])), (tn_3, .inl (k 0, 10, .inl tng3)), (tn_4, .inl (k 0, 10, .inl tng4)), (tn_5, .inl (k 0, 10, .inl tng5))]) (w1 := []) hP hD [] [0, 1, 2, 3, 4, 5, 6] rfl rfl (by decide +kernel) (by decide +kernel) hk1 hFc hP1 hD1
      clear hK1 hP1 hD1 hPc hDc hFc
      clear hk1 hz1 ht hvm
      have hP : va_P D vwCl [(ob, .inr (6, [.int L29f0x0, .int L29f0x1, .int L29f0x2, .ref obd])), (obd, .inr (1, [.ref obd_0, .int L29f1x1, .int L29f1x2])), (obd_0, .inl (k 0, 8, .inl L29a2)), (tn, .inr (10, [.int tnv0, .int tnv1, .int tnv2, .ref tn_3, .ref tn_4, .ref tn_5, .ref tn_6, .int tnv7, .int tnv8, .ref tn_9, .ref tn_10, .int tnv11, .ref tn_12, .ref tn_13, .ref tn_14, .ref tn_15, .int tnv16, .ref tn_17, .ref tn_18, .ref tnt])), (tn_3, .inl (k 0, 10, .inl tng3)), (tn_4, .inl (k 0, 10, .inl tng4)), (tn_5, .inl (k 0, 10, .inl tng5))] H1 := hP
      have hD : va_D A [(ob, .inr (6, [.int L29f0x0, .int L29f0x1, .int L29f0x2, .ref obd])), (obd, .inr (1, [.ref obd_0, .int L29f1x1, .int L29f1x2])), (obd_0, .inl (k 0, 8, .inl L29a2)), (tn, .inr (10, [.int tnv0, .int tnv1, .int tnv2, .ref tn_3, .ref tn_4, .ref tn_5, .ref tn_6, .int tnv7, .int tnv8, .ref tn_9, .ref tn_10, .int tnv11, .ref tn_12, .ref tn_13, .ref tn_14, .ref tn_15, .int tnv16, .ref tn_17, .ref tn_18, .ref tnt])), (tn_3, .inl (k 0, 10, .inl tng3)), (tn_4, .inl (k 0, 10, .inl tng4)), (tn_5, .inl (k 0, 10, .inl tng5))] := hD
      generalize H1 = H at hP hS ⊢
      have hw_10 : (0 ≤ r_9.toInt ∧ r_9.toInt ≤ 63) := hw
      have hw_11 := hw_10
      clear hw
      refine lv_iload_n hx hb dX6_search_53 rfl (lv_at hl 3 rfl) ?_
      refine lv_icmp_ne (tgt := 64) hx hb dX6_search_54 (by decide) (fun h_12 => ?_) (fun h_12 => ?_)
      · skip
        have zh_12 : ¬ r_9.toInt = r_1.toInt := z_ne h_12
        obtain ⟨x_13, ex_13⟩ : ∃ y : Int32, y = L29l4 + 1 := ⟨_, rfl⟩
        have zx_13 : x_13.toInt = L29l4.toInt + 1 := by rw [ex_13]; exact z_add rfl rfl (by omega) (by omega)
        refine lv_iinc (v := x_13) (lv' := [(4, .int x_13), (0, .ref ob), (1, .ref tn), (2, .int p1), (3, .int r_1)]) hx hb dX6_search_64 hl (k := 4) rfl (by rw [ex_13]; rfl) (by decide) rfl (fun ls hl => ?_)
        refine lv_goto (tgt := 29) hx hb dX6_search_67 (by decide) ?_
        exact ih_4 _ _ _ _ (by omega) ⟨x_13, L29f0x0, L29f0x1, L29f0x2, L29f1x1, L29f1x2, L29a2, rfl, (show 0 ≤ x_13.toInt ∧ x_13.toInt ≤ 256 from by omega), L29a2h0, hP.sub (ws' := [(ob, .inr (6, [.int L29f0x0, .int L29f0x1, .int L29f0x2, .ref obd])), (obd, .inr (1, [.ref obd_0, .int L29f1x1, .int L29f1x2])), (obd_0, .inl (k 0, 8, .inl L29a2)), (tn, .inr (10, [.int tnv0, .int tnv1, .int tnv2, .ref tn_3, .ref tn_4, .ref tn_5, .ref tn_6, .int tnv7, .int tnv8, .ref tn_9, .ref tn_10, .int tnv11, .ref tn_12, .ref tn_13, .ref tn_14, .ref tn_15, .int tnv16, .ref tn_17, .ref tn_18, .ref tnt])), (tn_3, .inl (k 0, 10, .inl tng3)), (tn_4, .inl (k 0, 10, .inl tng4)), (tn_5, .inl (k 0, 10, .inl tng5))]) [0, 1, 2, 3, 4, 5, 6] rfl, hD.sub (ws' := [(ob, .inr (6, [.int L29f0x0, .int L29f0x1, .int L29f0x2, .ref obd])), (obd, .inr (1, [.ref obd_0, .int L29f1x1, .int L29f1x2])), (obd_0, .inl (k 0, 8, .inl L29a2)), (tn, .inr (10, [.int tnv0, .int tnv1, .int tnv2, .ref tn_3, .ref tn_4, .ref tn_5, .ref tn_6, .int tnv7, .int tnv8, .ref tn_9, .ref tn_10, .int tnv11, .ref tn_12, .ref tn_13, .ref tn_14, .ref tn_15, .int tnv16, .ref tn_17, .ref tn_18, .ref tnt])), (tn_3, .inl (k 0, 10, .inl tng3)), (tn_4, .inl (k 0, 10, .inl tng4)), (tn_5, .inl (k 0, 10, .inl tng5))]) [0, 1, 2, 3, 4, 5, 6] (by decide +kernel) rfl, hS, lv_sub hl [1, 2, 3, 4, 0] rfl⟩
      · skip
        have zh_12 : r_9.toInt = r_1.toInt := z_eq h_12
        refine lv_aload_n hx hb dX6_search_57 rfl (lv_at hl 0 rfl) ?_
        refine lv_aload_n hx hb dX6_search_58 rfl (lv_at hl 1 rfl) ?_
        refine lv_iload hx hb dX6_search_59 (lv_at hl 4 rfl) ?_
        obtain ⟨hPc, hDc, hFc⟩ := sub3 hP hD hS hA (ws' := [(ob, .inr (6, [.int L29f0x0, .int L29f0x1, .int L29f0x2, .ref obd])), (obd, .inr (1, [.ref obd_0, .int L29f1x1, .int L29f1x2])), (obd_0, .inl (k 0, 8, .inl L29a2)), (tn, .inr (10, [.int tnv0, .int tnv1, .int tnv2, .ref tn_3, .ref tn_4, .ref tn_5, .ref tn_6, .int tnv7, .int tnv8, .ref tn_9, .ref tn_10, .int tnv11, .ref tn_12, .ref tn_13, .ref tn_14, .ref tn_15, .int tnv16, .ref tn_17, .ref tn_18, .ref tnt])), (tn_3, .inl (k 0, 10, .inl tng3)), (tn_4, .inl (k 0, 10, .inl tng4)), (tn_5, .inl (k 0, 10, .inl tng5))]) [0, 1, 2, 3, 4, 5, 6] (by decide +kernel) rfl
        refine va_callv (va_runV (C := RX6) (As := [.ref tn, .int L29l4]) (rest := []) ⟨hx, hb, hml, hown, hts⟩ (c_X6_weigh l D k ob tn L29l4 L29f0x0 L29f0x1 L29f0x2 obd obd_0 L29f1x1 L29f1x2 L29a2 tnv0 tnv1 tnv2 tn_3 tn_4 tn_5 tn_6 tnv7 tnv8 tn_9 tn_10 tnv11 tn_12 tn_13 tn_14 tn_15 tnv16 tn_17 tn_18 tnt tng3 tng4 tng5 H.size L29a2h0 (show 0 ≤ tnv0.toInt ∧ tnv0.toInt ≤ 8 from by omega) (show 0 ≤ tnv2.toInt ∧ tnv2.toInt ≤ 10 from by omega) (show 0 ≤ tnv8.toInt ∧ tnv8.toInt ≤ 4 from by omega) (show 0 ≤ tnv11.toInt ∧ tnv11.toInt ≤ 6 from by omega) (show 0 ≤ tnv16.toInt ∧ tnv16.toInt ≤ 2 from by omega) hp_tng3_0 hp_tng4_0 hp_tng5_0) (cwV 2 hts (gV tw_5_51 tw_5_53 tw_p_30 tw_1_10 tw_5_54) rfl rfl rfl hdV_X6_weigh ⟨Nat.le_of_ble_eq_true rfl, Nat.le_of_ble_eq_true rfl⟩) (cz_V hK hPc hDc hN (ci := 6) (q0 := 0) rfl rfl [.ref tn, .int L29l4]) rfl rfl hl.1 rfl (lv_room (Nat.le_of_ble_eq_true rfl)) dX6_search_61 ⟨Nat.le_of_ble_eq_true rfl, Nat.le_of_ble_eq_true rfl⟩) hS (fun q _ h => hFc q h) hFc (fun uZ tZ H1 locs ht hvm hw hB hz1 hk1 hS => ?_)
        obtain ⟨o_15, o_16, o_17, o_18, o_19, o_20⟩ := uZ
        obtain ⟨hP1, hK1, hD1⟩ := hB
        rw [ht] at hP1
        obtain ⟨hP, hD⟩ := va_join (wr := []) (w1 := [(ob, .inr (6, [.int o_19, .int o_20, .int o_15, .ref obd])), (obd, .inr (1, [.ref obd_0, .int o_16, .int o_17])), (obd_0, .inl (k 0, 8, .inl o_18)), (tn, .inr (10, [.int tnv0, .int tnv1, .int tnv2, .ref tn_3, .ref tn_4, .ref tn_5, .ref tn_6, .int tnv7, .int tnv8, .ref tn_9, .ref tn_10, .int tnv11, .ref tn_12, .ref tn_13, .ref tn_14, .ref tn_15, .int tnv16, .ref tn_17, .ref tn_18, .ref tnt])), (tn_3, .inl (k 0, 10, .inl tng3)), (tn_4, .inl (k 0, 10, .inl tng4)), (tn_5, .inl (k 0, 10, .inl tng5))]) hP hD [0, 1, 2, 3, 4, 5, 6] [] rfl rfl (by decide +kernel) (by decide +kernel) hk1 hFc hP1 hD1
        clear hK1 hP1 hD1 hPc hDc hFc
        clear hk1 hz1 ht hvm
        have hP : va_P D vwCl [(ob, .inr (6, [.int o_19, .int o_20, .int o_15, .ref obd])), (obd, .inr (1, [.ref obd_0, .int o_16, .int o_17])), (obd_0, .inl (k 0, 8, .inl o_18)), (tn, .inr (10, [.int tnv0, .int tnv1, .int tnv2, .ref tn_3, .ref tn_4, .ref tn_5, .ref tn_6, .int tnv7, .int tnv8, .ref tn_9, .ref tn_10, .int tnv11, .ref tn_12, .ref tn_13, .ref tn_14, .ref tn_15, .int tnv16, .ref tn_17, .ref tn_18, .ref tnt])), (tn_3, .inl (k 0, 10, .inl tng3)), (tn_4, .inl (k 0, 10, .inl tng4)), (tn_5, .inl (k 0, 10, .inl tng5))] H1 := hP
        have hD : va_D A [(ob, .inr (6, [.int o_19, .int o_20, .int o_15, .ref obd])), (obd, .inr (1, [.ref obd_0, .int o_16, .int o_17])), (obd_0, .inl (k 0, 8, .inl o_18)), (tn, .inr (10, [.int tnv0, .int tnv1, .int tnv2, .ref tn_3, .ref tn_4, .ref tn_5, .ref tn_6, .int tnv7, .int tnv8, .ref tn_9, .ref tn_10, .int tnv11, .ref tn_12, .ref tn_13, .ref tn_14, .ref tn_15, .int tnv16, .ref tn_17, .ref tn_18, .ref tnt])), (tn_3, .inl (k 0, 10, .inl tng3)), (tn_4, .inl (k 0, 10, .inl tng4)), (tn_5, .inl (k 0, 10, .inl tng5))] := hD
        generalize H1 = H at hP hS ⊢
        have hw_21 : (PR 8 1 0 0 1000000 o_18) := hw
        have hw_22 := hw_21
        clear hw
        obtain ⟨x_23, ex_23⟩ : ∃ y : Int32, y = L29l4 + 1 := ⟨_, rfl⟩
        have zx_23 : x_23.toInt = L29l4.toInt + 1 := by rw [ex_23]; exact z_add rfl rfl (by omega) (by omega)
        refine lv_iinc (v := x_23) (lv' := [(4, .int x_23), (0, .ref ob), (1, .ref tn), (2, .int p1), (3, .int r_1)]) hx hb dX6_search_64 hl (k := 4) rfl (by rw [ex_23]; rfl) (by decide) rfl (fun ls hl => ?_)
        refine lv_goto (tgt := 29) hx hb dX6_search_67 (by decide) ?_
        exact ih_4 _ _ _ _ (by omega) ⟨x_23, o_19, o_20, o_15, o_16, o_17, o_18, rfl, (show 0 ≤ x_23.toInt ∧ x_23.toInt ≤ 256 from by omega), hw_22, hP.sub (ws' := [(ob, .inr (6, [.int o_19, .int o_20, .int o_15, .ref obd])), (obd, .inr (1, [.ref obd_0, .int o_16, .int o_17])), (obd_0, .inl (k 0, 8, .inl o_18)), (tn, .inr (10, [.int tnv0, .int tnv1, .int tnv2, .ref tn_3, .ref tn_4, .ref tn_5, .ref tn_6, .int tnv7, .int tnv8, .ref tn_9, .ref tn_10, .int tnv11, .ref tn_12, .ref tn_13, .ref tn_14, .ref tn_15, .int tnv16, .ref tn_17, .ref tn_18, .ref tnt])), (tn_3, .inl (k 0, 10, .inl tng3)), (tn_4, .inl (k 0, 10, .inl tng4)), (tn_5, .inl (k 0, 10, .inl tng5))]) [0, 1, 2, 3, 4, 5, 6] rfl, hD.sub (ws' := [(ob, .inr (6, [.int o_19, .int o_20, .int o_15, .ref obd])), (obd, .inr (1, [.ref obd_0, .int o_16, .int o_17])), (obd_0, .inl (k 0, 8, .inl o_18)), (tn, .inr (10, [.int tnv0, .int tnv1, .int tnv2, .ref tn_3, .ref tn_4, .ref tn_5, .ref tn_6, .int tnv7, .int tnv8, .ref tn_9, .ref tn_10, .int tnv11, .ref tn_12, .ref tn_13, .ref tn_14, .ref tn_15, .int tnv16, .ref tn_17, .ref tn_18, .ref tnt])), (tn_3, .inl (k 0, 10, .inl tng3)), (tn_4, .inl (k 0, 10, .inl tng4)), (tn_5, .inl (k 0, 10, .inl tng5))]) [0, 1, 2, 3, 4, 5, 6] (by decide +kernel) rfl, hS, lv_sub hl [1, 2, 3, 4, 0] rfl⟩
set_option maxHeartbeats 4000000 in
set_option maxRecDepth 100000 in
theorem c_X7_weighTurn (l : Launch) (D : va_G) (k : Nat → ClassId) (ob : Nat) (tn : Nat) (p1 : Int32) (obv0 : Int32) (obv1 : Int32) (obc : Nat) (ob_3 : Nat) (obv4 : Int32) (ob_5 : Nat) (ob_6 : Nat) (obc_0 : Nat) (obcv1 : Int32) (obcv2 : Int32) (obcg0 : Nat → Int32) (tnv0 : Int32) (tnv1 : Int32) (tnv2 : Int32) (tn_3 : Nat) (tn_4 : Nat) (tn_5 : Nat) (tn_6 : Nat) (tnv7 : Int32) (tnv8 : Int32) (tn_9 : Nat) (tn_10 : Nat) (tnv11 : Int32) (tn_12 : Nat) (tn_13 : Nat) (tn_14 : Nat) (tn_15 : Nat) (tnv16 : Int32) (tn_17 : Nat) (tn_18 : Nat) (tnt : Nat) (tng3 : Nat → Int32) (tng4 : Nat → Int32) (tng5 : Nat → Int32) (tng9 : Nat → Int32) (tng10 : Nat → Int32) (tng12 : Nat → Int32) (tng13 : Nat → Int32) (tng14 : Nat → Int32) (sz : Nat) (h_obv4 : 0 ≤ obv4.toInt ∧ obv4.toInt ≤ 1024) (hp_obcg0_0 : PR 8 1 0 0 1000000 obcg0) (h_tnv0 : 0 ≤ tnv0.toInt ∧ tnv0.toInt ≤ 8) (h_tnv2 : 0 ≤ tnv2.toInt ∧ tnv2.toInt ≤ 10) (h_tnv8 : 0 ≤ tnv8.toInt ∧ tnv8.toInt ≤ 4) (h_tnv11 : 0 ≤ tnv11.toInt ∧ tnv11.toInt ≤ 6) (h_tnv16 : 0 ≤ tnv16.toInt ∧ tnv16.toInt ≤ 2) (hp_tng3_0 : PR 10 1 0 0 7 tng3) (hp_tng4_0 : PR 10 1 0 0 7 tng4) (hp_tng5_0 : PR 10 1 0 0 60 tng5) (hp_tng9_0 : PR 4 1 0 0 7 tng9) (hp_tng10_0 : PR 4 1 0 0 99 tng10) (hp_tng12_0 : PR 6 1 0 0 7 tng12) (hp_tng13_0 : PR 6 1 0 0 999 tng13) (hp_tng14_0 : PR 6 1 0 0 999 tng14) : Met l yX7_weighTurn (ww yX7_weighTurn cX7_weighTurn 4 none) ({ frames := 4, cells := 0, slots := 0, locals := 100 }) (Pre0 D k [(ob, .inr (7, [.int obv0, .int obv1, .ref obc, .ref ob_3, .int obv4, .ref ob_5, .ref ob_6])), (obc, .inr (1, [.ref obc_0, .int obcv1, .int obcv2])), (obc_0, .inl (k 0, 8, .inl obcg0)), (tn, .inr (10, [.int tnv0, .int tnv1, .int tnv2, .ref tn_3, .ref tn_4, .ref tn_5, .ref tn_6, .int tnv7, .int tnv8, .ref tn_9, .ref tn_10, .int tnv11, .ref tn_12, .ref tn_13, .ref tn_14, .ref tn_15, .int tnv16, .ref tn_17, .ref tn_18, .ref tnt])), (tn_3, .inl (k 0, 10, .inl tng3)), (tn_4, .inl (k 0, 10, .inl tng4)), (tn_5, .inl (k 0, 10, .inl tng5)), (tn_9, .inl (k 0, 4, .inl tng9)), (tn_10, .inl (k 0, 4, .inl tng10)), (tn_12, .inl (k 0, 6, .inl tng12)), (tn_13, .inl (k 0, 6, .inl tng13)), (tn_14, .inl (k 0, 6, .inl tng14))] sz [.ref ob, .ref tn, .int p1]) (va_Qv (fun (u : Int32 × Int32 × (Nat → Int32) × Int32 × Int32) => match u with | (obcv1z, obcv2z, obcg0z, obv0z, obv1z) => (PR 8 1 0 0 1000000 obcg0z)) (fun (u : Int32 × Int32 × (Nat → Int32) × Int32 × Int32) tZ => match u with | (obcv1z, obcv2z, obcg0z, obv0z, obv1z) => Bw D k (va_A [(ob, .inr (7, [.int obv0, .int obv1, .ref obc, .ref ob_3, .int obv4, .ref ob_5, .ref ob_6])), (obc, .inr (1, [.ref obc_0, .int obcv1, .int obcv2])), (obc_0, .inl (k 0, 8, .inl obcg0)), (tn, .inr (10, [.int tnv0, .int tnv1, .int tnv2, .ref tn_3, .ref tn_4, .ref tn_5, .ref tn_6, .int tnv7, .int tnv8, .ref tn_9, .ref tn_10, .int tnv11, .ref tn_12, .ref tn_13, .ref tn_14, .ref tn_15, .int tnv16, .ref tn_17, .ref tn_18, .ref tnt])), (tn_3, .inl (k 0, 10, .inl tng3)), (tn_4, .inl (k 0, 10, .inl tng4)), (tn_5, .inl (k 0, 10, .inl tng5)), (tn_9, .inl (k 0, 4, .inl tng9)), (tn_10, .inl (k 0, 4, .inl tng10)), (tn_12, .inl (k 0, 6, .inl tng12)), (tn_13, .inl (k 0, 6, .inl tng13)), (tn_14, .inl (k 0, 6, .inl tng14))] sz) [(ob, .inr (7, [.int obv0z, .int obv1z, .ref obc, .ref ob_3, .int obv4, .ref ob_5, .ref ob_6])), (obc, .inr (1, [.ref obc_0, .int obcv1z, .int obcv2z])), (obc_0, .inl (k 0, 8, .inl obcg0z)), (tn, .inr (10, [.int tnv0, .int tnv1, .int tnv2, .ref tn_3, .ref tn_4, .ref tn_5, .ref tn_6, .int tnv7, .int tnv8, .ref tn_9, .ref tn_10, .int tnv11, .ref tn_12, .ref tn_13, .ref tn_14, .ref tn_15, .int tnv16, .ref tn_17, .ref tn_18, .ref tnt])), (tn_3, .inl (k 0, 10, .inl tng3)), (tn_4, .inl (k 0, 10, .inl tng4)), (tn_5, .inl (k 0, 10, .inl tng5)), (tn_9, .inl (k 0, 4, .inl tng9)), (tn_10, .inl (k 0, 4, .inl tng10)), (tn_12, .inl (k 0, 6, .inl tng12)), (tn_13, .inl (k 0, 6, .inl tng13)), (tn_14, .inl (k 0, 6, .inl tng14))] tZ) (va_A [(ob, .inr (7, [.int obv0, .int obv1, .ref obc, .ref ob_3, .int obv4, .ref ob_5, .ref ob_6])), (obc, .inr (1, [.ref obc_0, .int obcv1, .int obcv2])), (obc_0, .inl (k 0, 8, .inl obcg0)), (tn, .inr (10, [.int tnv0, .int tnv1, .int tnv2, .ref tn_3, .ref tn_4, .ref tn_5, .ref tn_6, .int tnv7, .int tnv8, .ref tn_9, .ref tn_10, .int tnv11, .ref tn_12, .ref tn_13, .ref tn_14, .ref tn_15, .int tnv16, .ref tn_17, .ref tn_18, .ref tnt])), (tn_3, .inl (k 0, 10, .inl tng3)), (tn_4, .inl (k 0, 10, .inl tng4)), (tn_5, .inl (k 0, 10, .inl tng5)), (tn_9, .inl (k 0, 4, .inl tng9)), (tn_10, .inl (k 0, 4, .inl tng10)), (tn_12, .inl (k 0, 6, .inl tng12)), (tn_13, .inl (k 0, 6, .inl tng13)), (tn_14, .inl (k 0, 6, .inl tng14))] sz)) 0 0 (va_A [(ob, .inr (7, [.int obv0, .int obv1, .ref obc, .ref ob_3, .int obv4, .ref ob_5, .ref ob_6])), (obc, .inr (1, [.ref obc_0, .int obcv1, .int obcv2])), (obc_0, .inl (k 0, 8, .inl obcg0)), (tn, .inr (10, [.int tnv0, .int tnv1, .int tnv2, .ref tn_3, .ref tn_4, .ref tn_5, .ref tn_6, .int tnv7, .int tnv8, .ref tn_9, .ref tn_10, .int tnv11, .ref tn_12, .ref tn_13, .ref tn_14, .ref tn_15, .int tnv16, .ref tn_17, .ref tn_18, .ref tnt])), (tn_3, .inl (k 0, 10, .inl tng3)), (tn_4, .inl (k 0, 10, .inl tng4)), (tn_5, .inl (k 0, 10, .inl tng5)), (tn_9, .inl (k 0, 4, .inl tng9)), (tn_10, .inl (k 0, 4, .inl tng10)), (tn_12, .inl (k 0, 6, .inl tng12)), (tn_13, .inl (k 0, 6, .inl tng13)), (tn_14, .inl (k 0, 6, .inl tng14))] sz) := by
  refine Met.ofW (cc := cX7_weighTurn) (maxL := 4) (ret := none) (by decide +kernel) rfl ?_
  intro p e s m args below meth c s₁ B hml hv
  obtain ⟨rfl, hsz, hP, hK, hD0, hN⟩ := hv
  have hx := B.exec
  have hb := B.bytes
  have hr := B.returns
  have hts : ∀ w ∈ TT, w.before _ s = true := fun w h => atoms_spec (ws := ww yX7_weighTurn cX7_weighTurn 4 none) B.pre w (List.mem_cons_of_mem _ h)
  have hown : s.vm.findClass RX7 = some m.cls := findClass_of_methodNamed B.named
  have hlocks := B.notSynchronized
  subst hsz
  have hD := hD0.self (sz := s.heap.size)
  generalize hAe : va_A [(ob, .inr (7, [.int obv0, .int obv1, .ref obc, .ref ob_3, .int obv4, .ref ob_5, .ref ob_6])), (obc, .inr (1, [.ref obc_0, .int obcv1, .int obcv2])), (obc_0, .inl (k 0, 8, .inl obcg0)), (tn, .inr (10, [.int tnv0, .int tnv1, .int tnv2, .ref tn_3, .ref tn_4, .ref tn_5, .ref tn_6, .int tnv7, .int tnv8, .ref tn_9, .ref tn_10, .int tnv11, .ref tn_12, .ref tn_13, .ref tn_14, .ref tn_15, .int tnv16, .ref tn_17, .ref tn_18, .ref tnt])), (tn_3, .inl (k 0, 10, .inl tng3)), (tn_4, .inl (k 0, 10, .inl tng4)), (tn_5, .inl (k 0, 10, .inl tng5)), (tn_9, .inl (k 0, 4, .inl tng9)), (tn_10, .inl (k 0, 4, .inl tng10)), (tn_12, .inl (k 0, 6, .inl tng12)), (tn_13, .inl (k 0, 6, .inl tng13)), (tn_14, .inl (k 0, 6, .inl tng14))] s.heap.size = A at hD ⊢
  have hA : ∀ q : Nat, s.heap.size ≤ q → A q := fun q h => by rw [← hAe]; exact Or.inr h
  have hS : va_S A s.heap s.heap [] := va_S.rf
  have hl := lv_entry ([.ref ob, .ref tn, .int p1]) (n := 4) (Nat.le_of_ble_eq_true rfl)
  rw [lg_entry_eq]
  generalize (lg_sl ([.ref ob, .ref tn, .int p1]) ++ List.replicate (4 - (lg_sl ([.ref ob, .ref tn, .int p1])).length) Slot.unset).toArray = ls at hl ⊢
  have hl : lv_has ls 4 [(0, .ref ob), (1, .ref tn), (2, .int p1)] := hl
  refine lv_aload_n hx hb dX7_weighTurn_0 rfl (lv_at hl 0 rfl) ?_
  refine va_get (D := D) (ci := 7) (v := .ref obc) (C := RX7) (T := TX7) (N := 7) hx hb hts iT_X7 hown hK hP 0 rfl rfl 2 (by decide) (hts _ tw_2_68) (fun _ h9 => h9) rfl dX7_weighTurn_1 ?_
  refine lv_aload_n hx hb dX7_weighTurn_4 rfl (lv_at hl 1 rfl) ?_
  refine lv_aload_n hx hb dX7_weighTurn_5 rfl (lv_at hl 1 rfl) ?_
  obtain ⟨hPc, hDc, hFc⟩ := sub3 hP hD hS hA (ws' := [(tn, .inr (10, [.int tnv0, .int tnv1, .int tnv2, .ref tn_3, .ref tn_4, .ref tn_5, .ref tn_6, .int tnv7, .int tnv8, .ref tn_9, .ref tn_10, .int tnv11, .ref tn_12, .ref tn_13, .ref tn_14, .ref tn_15, .int tnv16, .ref tn_17, .ref tn_18, .ref tnt]))]) [3] (by decide +kernel) rfl
  refine va_calli (va_runV (C := RX10) (As := []) (rest := [.ref tn, .ref obc]) ⟨hx, hb, hml, hown, hts⟩ (c_X10_openLanes l D k tn tnv0 tnv1 tnv2 tn_3 tn_4 tn_5 tn_6 tnv7 tnv8 tn_9 tn_10 tnv11 tn_12 tn_13 tn_14 tn_15 tnv16 tn_17 tn_18 tnt s.heap.size (show 0 ≤ tnv0.toInt ∧ tnv0.toInt ≤ 8 from by omega) (show 0 ≤ tnv2.toInt ∧ tnv2.toInt ≤ 10 from by omega) (show 0 ≤ tnv8.toInt ∧ tnv8.toInt ≤ 4 from by omega) (show 0 ≤ tnv11.toInt ∧ tnv11.toInt ≤ 6 from by omega) (show 0 ≤ tnv16.toInt ∧ tnv16.toInt ≤ 2 from by omega)) (cwV 0 hts (gV tw_4_130 tw_3_180 tw_3_181 tw_1_3 tw_3_182) rfl rfl rfl hdV_X10_openLanes ⟨Nat.le_of_ble_eq_true rfl, Nat.le_of_ble_eq_true rfl⟩) (cz_V hK hPc hDc hN (ci := 10) (q0 := 0) rfl rfl []) rfl rfl hl.1 rfl (lv_room (Nat.le_of_ble_eq_true rfl)) dX7_weighTurn_6 ⟨Nat.le_of_ble_eq_true rfl, Nat.le_of_ble_eq_true rfl⟩) hS (fun q _ h => hFc q h) hFc (fun r_1 uZ tZ H1 locs ht hvm hw hB hz1 hk1 hS => ?_)
  obtain ⟨hP1, hK1, hD1⟩ := hB
  rw [ht] at hP1
  obtain ⟨hP, hD⟩ := va_join (wr := [(ob, .inr (7, [.int obv0, .int obv1, .ref obc, .ref ob_3, .int obv4, .ref ob_5, .ref ob_6])), (obc, .inr (1, [.ref obc_0, .int obcv1, .int obcv2])), (obc_0, .inl (k 0, 8, .inl obcg0)), (tn_3, .inl (k 0, 10, .inl tng3)), (tn_4, .inl (k 0, 10, .inl tng4)), (tn_5, .inl (k 0, 10, .inl tng5)), (tn_9, .inl (k 0, 4, .inl tng9)), (tn_10, .inl (k 0, 4, .inl tng10)), (tn_12, .inl (k 0, 6, .inl tng12)), (tn_13, .inl (k 0, 6, .inl tng13)), (tn_14, .inl (k 0, 6, .inl tng14))]) (w1 := [(tn, .inr (10, [.int tnv0, .int tnv1, .int tnv2, .ref tn_3, .ref tn_4, .ref tn_5, .ref tn_6, .int tnv7, .int tnv8, .ref tn_9, .ref tn_10, .int tnv11, .ref tn_12, .ref tn_13, .ref tn_14, .ref tn_15, .int tnv16, .ref tn_17, .ref tn_18, .ref tnt]))]) hP hD [3] [0, 1, 2, 4, 5, 6, 7, 8, 9, 10, 11] rfl rfl (by decide +kernel) (by decide +kernel) hk1 hFc hP1 hD1
  clear hK1 hP1 hD1 hPc hDc hFc
  clear hk1 hz1 ht hvm
  have hP : va_P D vwCl [(ob, .inr (7, [.int obv0, .int obv1, .ref obc, .ref ob_3, .int obv4, .ref ob_5, .ref ob_6])), (obc, .inr (1, [.ref obc_0, .int obcv1, .int obcv2])), (obc_0, .inl (k 0, 8, .inl obcg0)), (tn_3, .inl (k 0, 10, .inl tng3)), (tn_4, .inl (k 0, 10, .inl tng4)), (tn_5, .inl (k 0, 10, .inl tng5)), (tn_9, .inl (k 0, 4, .inl tng9)), (tn_10, .inl (k 0, 4, .inl tng10)), (tn_12, .inl (k 0, 6, .inl tng12)), (tn_13, .inl (k 0, 6, .inl tng13)), (tn_14, .inl (k 0, 6, .inl tng14)), (tn, .inr (10, [.int tnv0, .int tnv1, .int tnv2, .ref tn_3, .ref tn_4, .ref tn_5, .ref tn_6, .int tnv7, .int tnv8, .ref tn_9, .ref tn_10, .int tnv11, .ref tn_12, .ref tn_13, .ref tn_14, .ref tn_15, .int tnv16, .ref tn_17, .ref tn_18, .ref tnt]))] H1 := hP
  have hD : va_D A [(ob, .inr (7, [.int obv0, .int obv1, .ref obc, .ref ob_3, .int obv4, .ref ob_5, .ref ob_6])), (obc, .inr (1, [.ref obc_0, .int obcv1, .int obcv2])), (obc_0, .inl (k 0, 8, .inl obcg0)), (tn_3, .inl (k 0, 10, .inl tng3)), (tn_4, .inl (k 0, 10, .inl tng4)), (tn_5, .inl (k 0, 10, .inl tng5)), (tn_9, .inl (k 0, 4, .inl tng9)), (tn_10, .inl (k 0, 4, .inl tng10)), (tn_12, .inl (k 0, 6, .inl tng12)), (tn_13, .inl (k 0, 6, .inl tng13)), (tn_14, .inl (k 0, 6, .inl tng14)), (tn, .inr (10, [.int tnv0, .int tnv1, .int tnv2, .ref tn_3, .ref tn_4, .ref tn_5, .ref tn_6, .int tnv7, .int tnv8, .ref tn_9, .ref tn_10, .int tnv11, .ref tn_12, .ref tn_13, .ref tn_14, .ref tn_15, .int tnv16, .ref tn_17, .ref tn_18, .ref tnt]))] := hD
  generalize H1 = H at hP hS ⊢
  have hw_2 : (0 ≤ r_1.toInt ∧ r_1.toInt ≤ 1023) := hw
  have hw_3 := hw_2
  clear hw
  refine lv_iload_n hx hb dX7_weighTurn_9 rfl (lv_at hl 2 rfl) ?_
  refine lv_ixor hx hb dX7_weighTurn_10 ?_
  refine lv_topi (fun x_4 ex_4 => ?_)
  have zrp1 := z_rng p1
  refine lv_iconst (v := 0) hx hb dX7_weighTurn_11 (by decide) ?_
  obtain ⟨hPc, hDc, hFc⟩ := sub3 hP hD hS hA (ws' := [(obc, .inr (1, [.ref obc_0, .int obcv1, .int obcv2])), (obc_0, .inl (k 0, 8, .inl obcg0)), (tn, .inr (10, [.int tnv0, .int tnv1, .int tnv2, .ref tn_3, .ref tn_4, .ref tn_5, .ref tn_6, .int tnv7, .int tnv8, .ref tn_9, .ref tn_10, .int tnv11, .ref tn_12, .ref tn_13, .ref tn_14, .ref tn_15, .int tnv16, .ref tn_17, .ref tn_18, .ref tnt])), (tn_3, .inl (k 0, 10, .inl tng3)), (tn_4, .inl (k 0, 10, .inl tng4)), (tn_5, .inl (k 0, 10, .inl tng5)), (tn_9, .inl (k 0, 4, .inl tng9)), (tn_10, .inl (k 0, 4, .inl tng10))]) [1, 2, 11, 3, 4, 5, 6, 7] (by decide +kernel) rfl
  refine va_callv (va_runV (C := RX1) (As := [.ref tn, .int x_4, .int 0]) (rest := []) ⟨hx, hb, hml, hown, hts⟩ (c_X1_fall l D k obc tn x_4 0 obc_0 obcv1 obcv2 obcg0 tnv0 tnv1 tnv2 tn_3 tn_4 tn_5 tn_6 tnv7 tnv8 tn_9 tn_10 tnv11 tn_12 tn_13 tn_14 tn_15 tnv16 tn_17 tn_18 tnt tng3 tng4 tng5 tng9 tng10 H.size hp_obcg0_0 (show 0 ≤ tnv0.toInt ∧ tnv0.toInt ≤ 8 from by omega) (show 0 ≤ tnv2.toInt ∧ tnv2.toInt ≤ 10 from by omega) (show 0 ≤ tnv8.toInt ∧ tnv8.toInt ≤ 4 from by omega) (show 0 ≤ tnv11.toInt ∧ tnv11.toInt ≤ 6 from by omega) (show 0 ≤ tnv16.toInt ∧ tnv16.toInt ≤ 2 from by omega) hp_tng3_0 hp_tng4_0 hp_tng5_0 hp_tng9_0 hp_tng10_0) (cwV 3 hts (gV tw_4_131 tw_3_184 tw_3_185 tw_1_6 tw_3_186) rfl rfl rfl hdV_X1_fall ⟨Nat.le_of_ble_eq_true rfl, Nat.le_of_ble_eq_true rfl⟩) (cz_V hK hPc hDc hN (ci := 1) (q0 := 0) rfl rfl [.ref tn, .int x_4, .int 0]) rfl rfl hl.1 rfl (lv_room (Nat.le_of_ble_eq_true rfl)) dX7_weighTurn_12 ⟨Nat.le_of_ble_eq_true rfl, Nat.le_of_ble_eq_true rfl⟩) hS (fun q _ h => hFc q h) hFc (fun uZ tZ H1 locs ht hvm hw hB hz1 hk1 hS => ?_)
  obtain ⟨o_6, o_7, o_8⟩ := uZ
  obtain ⟨hP1, hK1, hD1⟩ := hB
  rw [ht] at hP1
  obtain ⟨hP, hD⟩ := va_join (wr := [(ob, .inr (7, [.int obv0, .int obv1, .ref obc, .ref ob_3, .int obv4, .ref ob_5, .ref ob_6])), (tn_12, .inl (k 0, 6, .inl tng12)), (tn_13, .inl (k 0, 6, .inl tng13)), (tn_14, .inl (k 0, 6, .inl tng14))]) (w1 := [(obc, .inr (1, [.ref obc_0, .int o_6, .int o_7])), (obc_0, .inl (k 0, 8, .inl o_8)), (tn, .inr (10, [.int tnv0, .int tnv1, .int tnv2, .ref tn_3, .ref tn_4, .ref tn_5, .ref tn_6, .int tnv7, .int tnv8, .ref tn_9, .ref tn_10, .int tnv11, .ref tn_12, .ref tn_13, .ref tn_14, .ref tn_15, .int tnv16, .ref tn_17, .ref tn_18, .ref tnt])), (tn_3, .inl (k 0, 10, .inl tng3)), (tn_4, .inl (k 0, 10, .inl tng4)), (tn_5, .inl (k 0, 10, .inl tng5)), (tn_9, .inl (k 0, 4, .inl tng9)), (tn_10, .inl (k 0, 4, .inl tng10))]) hP hD [1, 2, 11, 3, 4, 5, 6, 7] [0, 8, 9, 10] rfl rfl (by decide +kernel) (by decide +kernel) hk1 hFc hP1 hD1
  clear hK1 hP1 hD1 hPc hDc hFc
  clear hk1 hz1 ht hvm
  have hP : va_P D vwCl [(ob, .inr (7, [.int obv0, .int obv1, .ref obc, .ref ob_3, .int obv4, .ref ob_5, .ref ob_6])), (tn_12, .inl (k 0, 6, .inl tng12)), (tn_13, .inl (k 0, 6, .inl tng13)), (tn_14, .inl (k 0, 6, .inl tng14)), (obc, .inr (1, [.ref obc_0, .int o_6, .int o_7])), (obc_0, .inl (k 0, 8, .inl o_8)), (tn, .inr (10, [.int tnv0, .int tnv1, .int tnv2, .ref tn_3, .ref tn_4, .ref tn_5, .ref tn_6, .int tnv7, .int tnv8, .ref tn_9, .ref tn_10, .int tnv11, .ref tn_12, .ref tn_13, .ref tn_14, .ref tn_15, .int tnv16, .ref tn_17, .ref tn_18, .ref tnt])), (tn_3, .inl (k 0, 10, .inl tng3)), (tn_4, .inl (k 0, 10, .inl tng4)), (tn_5, .inl (k 0, 10, .inl tng5)), (tn_9, .inl (k 0, 4, .inl tng9)), (tn_10, .inl (k 0, 4, .inl tng10))] H1 := hP
  have hD : va_D A [(ob, .inr (7, [.int obv0, .int obv1, .ref obc, .ref ob_3, .int obv4, .ref ob_5, .ref ob_6])), (tn_12, .inl (k 0, 6, .inl tng12)), (tn_13, .inl (k 0, 6, .inl tng13)), (tn_14, .inl (k 0, 6, .inl tng14)), (obc, .inr (1, [.ref obc_0, .int o_6, .int o_7])), (obc_0, .inl (k 0, 8, .inl o_8)), (tn, .inr (10, [.int tnv0, .int tnv1, .int tnv2, .ref tn_3, .ref tn_4, .ref tn_5, .ref tn_6, .int tnv7, .int tnv8, .ref tn_9, .ref tn_10, .int tnv11, .ref tn_12, .ref tn_13, .ref tn_14, .ref tn_15, .int tnv16, .ref tn_17, .ref tn_18, .ref tnt])), (tn_3, .inl (k 0, 10, .inl tng3)), (tn_4, .inl (k 0, 10, .inl tng4)), (tn_5, .inl (k 0, 10, .inl tng5)), (tn_9, .inl (k 0, 4, .inl tng9)), (tn_10, .inl (k 0, 4, .inl tng10))] := hD
  generalize H1 = H at hP hS ⊢
  have hw_9 : (PR 8 1 0 0 1000000 o_8) := hw
  have hw_10 := hw_9
  clear hw
  refine lv_aload_n hx hb dX7_weighTurn_15 rfl (lv_at hl 0 rfl) ?_
  refine va_get (D := D) (ci := 7) (v := .ref obc) (C := RX7) (T := TX7) (N := 7) hx hb hts iT_X7 hown hK hP 0 rfl rfl 2 (by decide) (hts _ tw_2_68) (fun _ h9 => h9) rfl dX7_weighTurn_16 ?_
  refine lv_aload_n hx hb dX7_weighTurn_19 rfl (lv_at hl 1 rfl) ?_
  obtain ⟨hPc, hDc, hFc⟩ := sub3 hP hD hS hA (ws' := [(obc, .inr (1, [.ref obc_0, .int o_6, .int o_7])), (obc_0, .inl (k 0, 8, .inl o_8)), (tn, .inr (10, [.int tnv0, .int tnv1, .int tnv2, .ref tn_3, .ref tn_4, .ref tn_5, .ref tn_6, .int tnv7, .int tnv8, .ref tn_9, .ref tn_10, .int tnv11, .ref tn_12, .ref tn_13, .ref tn_14, .ref tn_15, .int tnv16, .ref tn_17, .ref tn_18, .ref tnt])), (tn_12, .inl (k 0, 6, .inl tng12)), (tn_13, .inl (k 0, 6, .inl tng13)), (tn_14, .inl (k 0, 6, .inl tng14))]) [4, 5, 6, 1, 2, 3] (by decide +kernel) rfl
  refine va_calli (va_runV (C := RX1) (As := [.ref tn]) (rest := []) ⟨hx, hb, hml, hown, hts⟩ (c_X1_gladOfAll l D k obc tn obc_0 o_6 o_7 o_8 tnv0 tnv1 tnv2 tn_3 tn_4 tn_5 tn_6 tnv7 tnv8 tn_9 tn_10 tnv11 tn_12 tn_13 tn_14 tn_15 tnv16 tn_17 tn_18 tnt tng12 tng13 tng14 H.size hw_10 (show 0 ≤ tnv0.toInt ∧ tnv0.toInt ≤ 8 from by omega) (show 0 ≤ tnv2.toInt ∧ tnv2.toInt ≤ 10 from by omega) (show 0 ≤ tnv8.toInt ∧ tnv8.toInt ≤ 4 from by omega) (show 0 ≤ tnv11.toInt ∧ tnv11.toInt ≤ 6 from by omega) (show 0 ≤ tnv16.toInt ∧ tnv16.toInt ≤ 2 from by omega) hp_tng12_0 hp_tng13_0 hp_tng14_0) (cwV 1 hts (gV tw_4_132 tw_4_87 tw_4_88 tw_1_6 tw_4_89) rfl rfl rfl hdV_X1_gladOfAll ⟨Nat.le_of_ble_eq_true rfl, Nat.le_of_ble_eq_true rfl⟩) (cz_V hK hPc hDc hN (ci := 1) (q0 := 0) rfl rfl [.ref tn]) rfl rfl hl.1 rfl (lv_room (Nat.le_of_ble_eq_true rfl)) dX7_weighTurn_20 ⟨Nat.le_of_ble_eq_true rfl, Nat.le_of_ble_eq_true rfl⟩) hS (fun q _ h => hFc q h) hFc (fun r_11 uZ tZ H1 locs ht hvm hw hB hz1 hk1 hS => ?_)
  obtain ⟨hP1, hK1, hD1⟩ := hB
  rw [ht] at hP1
  obtain ⟨hP, hD⟩ := va_join (wr := [(ob, .inr (7, [.int obv0, .int obv1, .ref obc, .ref ob_3, .int obv4, .ref ob_5, .ref ob_6])), (tn_3, .inl (k 0, 10, .inl tng3)), (tn_4, .inl (k 0, 10, .inl tng4)), (tn_5, .inl (k 0, 10, .inl tng5)), (tn_9, .inl (k 0, 4, .inl tng9)), (tn_10, .inl (k 0, 4, .inl tng10))]) (w1 := [(obc, .inr (1, [.ref obc_0, .int o_6, .int o_7])), (obc_0, .inl (k 0, 8, .inl o_8)), (tn, .inr (10, [.int tnv0, .int tnv1, .int tnv2, .ref tn_3, .ref tn_4, .ref tn_5, .ref tn_6, .int tnv7, .int tnv8, .ref tn_9, .ref tn_10, .int tnv11, .ref tn_12, .ref tn_13, .ref tn_14, .ref tn_15, .int tnv16, .ref tn_17, .ref tn_18, .ref tnt])), (tn_12, .inl (k 0, 6, .inl tng12)), (tn_13, .inl (k 0, 6, .inl tng13)), (tn_14, .inl (k 0, 6, .inl tng14))]) hP hD [4, 5, 6, 1, 2, 3] [0, 7, 8, 9, 10, 11] rfl rfl (by decide +kernel) (by decide +kernel) hk1 hFc hP1 hD1
  clear hK1 hP1 hD1 hPc hDc hFc
  clear hk1 hz1 ht hvm
  have hP : va_P D vwCl [(ob, .inr (7, [.int obv0, .int obv1, .ref obc, .ref ob_3, .int obv4, .ref ob_5, .ref ob_6])), (tn_3, .inl (k 0, 10, .inl tng3)), (tn_4, .inl (k 0, 10, .inl tng4)), (tn_5, .inl (k 0, 10, .inl tng5)), (tn_9, .inl (k 0, 4, .inl tng9)), (tn_10, .inl (k 0, 4, .inl tng10)), (obc, .inr (1, [.ref obc_0, .int o_6, .int o_7])), (obc_0, .inl (k 0, 8, .inl o_8)), (tn, .inr (10, [.int tnv0, .int tnv1, .int tnv2, .ref tn_3, .ref tn_4, .ref tn_5, .ref tn_6, .int tnv7, .int tnv8, .ref tn_9, .ref tn_10, .int tnv11, .ref tn_12, .ref tn_13, .ref tn_14, .ref tn_15, .int tnv16, .ref tn_17, .ref tn_18, .ref tnt])), (tn_12, .inl (k 0, 6, .inl tng12)), (tn_13, .inl (k 0, 6, .inl tng13)), (tn_14, .inl (k 0, 6, .inl tng14))] H1 := hP
  have hD : va_D A [(ob, .inr (7, [.int obv0, .int obv1, .ref obc, .ref ob_3, .int obv4, .ref ob_5, .ref ob_6])), (tn_3, .inl (k 0, 10, .inl tng3)), (tn_4, .inl (k 0, 10, .inl tng4)), (tn_5, .inl (k 0, 10, .inl tng5)), (tn_9, .inl (k 0, 4, .inl tng9)), (tn_10, .inl (k 0, 4, .inl tng10)), (obc, .inr (1, [.ref obc_0, .int o_6, .int o_7])), (obc_0, .inl (k 0, 8, .inl o_8)), (tn, .inr (10, [.int tnv0, .int tnv1, .int tnv2, .ref tn_3, .ref tn_4, .ref tn_5, .ref tn_6, .int tnv7, .int tnv8, .ref tn_9, .ref tn_10, .int tnv11, .ref tn_12, .ref tn_13, .ref tn_14, .ref tn_15, .int tnv16, .ref tn_17, .ref tn_18, .ref tnt])), (tn_12, .inl (k 0, 6, .inl tng12)), (tn_13, .inl (k 0, 6, .inl tng13)), (tn_14, .inl (k 0, 6, .inl tng14))] := hD
  generalize H1 = H at hP hS ⊢
  clear hw
  refine lv_istore_n (lv' := [(3, .int r_11), (0, .ref ob), (1, .ref tn), (2, .int p1)]) hx hb dX7_weighTurn_23 rfl hl (by decide) rfl (fun ls hl => ?_)
  refine lv_iload_n hx hb dX7_weighTurn_24 rfl (lv_at hl 0 rfl) ?_
  refine lv_aload_n hx hb dX7_weighTurn_25 rfl (lv_at hl 1 rfl) ?_
  refine va_get (D := D) (ci := 7) (v := .int obv0) (C := RX7) (T := TX7) (N := 7) hx hb hts iT_X7 hown hK hP 0 rfl rfl 0 (by decide) (hts _ tw_2_64) (fun _ h9 => h9) rfl dX7_weighTurn_26 ?_
  refine lv_icmp_le (tgt := 42) hx hb dX7_weighTurn_29 (by decide) (fun h_13 => ?_) (fun h_13 => ?_)
  · skip
    have zh_13 : r_11.toInt ≤ obv0.toInt := z_le h_13
    obtain ⟨hP9, hD9⟩ := sub2 hP hD (ws' := [(ob, .inr (7, [.int obv0, .int obv1, .ref obc, .ref ob_3, .int obv4, .ref ob_5, .ref ob_6])), (obc, .inr (1, [.ref obc_0, .int o_6, .int o_7])), (obc_0, .inl (k 0, 8, .inl o_8)), (tn, .inr (10, [.int tnv0, .int tnv1, .int tnv2, .ref tn_3, .ref tn_4, .ref tn_5, .ref tn_6, .int tnv7, .int tnv8, .ref tn_9, .ref tn_10, .int tnv11, .ref tn_12, .ref tn_13, .ref tn_14, .ref tn_15, .int tnv16, .ref tn_17, .ref tn_18, .ref tnt])), (tn_3, .inl (k 0, 10, .inl tng3)), (tn_4, .inl (k 0, 10, .inl tng4)), (tn_5, .inl (k 0, 10, .inl tng5)), (tn_9, .inl (k 0, 4, .inl tng9)), (tn_10, .inl (k 0, 4, .inl tng10)), (tn_12, .inl (k 0, 6, .inl tng12)), (tn_13, .inl (k 0, 6, .inl tng13)), (tn_14, .inl (k 0, 6, .inl tng14))]) [0, 6, 7, 8, 1, 2, 3, 4, 5, 9, 10, 11] (by decide +kernel) rfl
    exact W.vret hx hb hr (fun tZ ht hW => ⟨⟨(o_6, o_7, o_8, obv0, obv1), rfl, hw_10, by rw [ht]; exact hP9, va_K.moved hW.alike hK, hD9⟩, hS.F ht⟩) hS.2.2 dX7_weighTurn_42
  · skip
    have zh_13 : obv0.toInt < r_11.toInt := z_nle h_13
    refine lv_aload_n hx hb dX7_weighTurn_32 rfl (lv_at hl 1 rfl) ?_
    refine lv_iload_n hx hb dX7_weighTurn_33 rfl (lv_at hl 0 rfl) ?_
    refine va_put (D := D) (ci := 7) (v := .int r_11) (ty := tyX7 0) (C := RX7) (T := TX7) (N := 7) hx hb hts iT_X7 tyX7 tyX7_ok nmX7 hown hK hP hD hS 0 rfl rfl 0 (by decide) (hts _ tw_2_64) (fun _ h9 => h9) rfl (tyX7_ok 0 (by decide)) rfl rfl (Nat.le_of_ble_eq_true rfl) dX7_weighTurn_34 (fun H locs hP hD hS => ?_)
    have hP : va_P D vwCl [(ob, .inr (7, [.int r_11, .int obv1, .ref obc, .ref ob_3, .int obv4, .ref ob_5, .ref ob_6])), (tn_3, .inl (k 0, 10, .inl tng3)), (tn_4, .inl (k 0, 10, .inl tng4)), (tn_5, .inl (k 0, 10, .inl tng5)), (tn_9, .inl (k 0, 4, .inl tng9)), (tn_10, .inl (k 0, 4, .inl tng10)), (obc, .inr (1, [.ref obc_0, .int o_6, .int o_7])), (obc_0, .inl (k 0, 8, .inl o_8)), (tn, .inr (10, [.int tnv0, .int tnv1, .int tnv2, .ref tn_3, .ref tn_4, .ref tn_5, .ref tn_6, .int tnv7, .int tnv8, .ref tn_9, .ref tn_10, .int tnv11, .ref tn_12, .ref tn_13, .ref tn_14, .ref tn_15, .int tnv16, .ref tn_17, .ref tn_18, .ref tnt])), (tn_12, .inl (k 0, 6, .inl tng12)), (tn_13, .inl (k 0, 6, .inl tng13)), (tn_14, .inl (k 0, 6, .inl tng14))] H := hP
    have hD : va_D A [(ob, .inr (7, [.int r_11, .int obv1, .ref obc, .ref ob_3, .int obv4, .ref ob_5, .ref ob_6])), (tn_3, .inl (k 0, 10, .inl tng3)), (tn_4, .inl (k 0, 10, .inl tng4)), (tn_5, .inl (k 0, 10, .inl tng5)), (tn_9, .inl (k 0, 4, .inl tng9)), (tn_10, .inl (k 0, 4, .inl tng10)), (obc, .inr (1, [.ref obc_0, .int o_6, .int o_7])), (obc_0, .inl (k 0, 8, .inl o_8)), (tn, .inr (10, [.int tnv0, .int tnv1, .int tnv2, .ref tn_3, .ref tn_4, .ref tn_5, .ref tn_6, .int tnv7, .int tnv8, .ref tn_9, .ref tn_10, .int tnv11, .ref tn_12, .ref tn_13, .ref tn_14, .ref tn_15, .int tnv16, .ref tn_17, .ref tn_18, .ref tnt])), (tn_12, .inl (k 0, 6, .inl tng12)), (tn_13, .inl (k 0, 6, .inl tng13)), (tn_14, .inl (k 0, 6, .inl tng14))] := hD
    refine lv_aload_n hx hb dX7_weighTurn_37 rfl (lv_at hl 1 rfl) ?_
    refine lv_iload_n hx hb dX7_weighTurn_38 rfl (lv_at hl 3 rfl) ?_
    refine va_put (D := D) (ci := 7) (v := .int p1) (ty := tyX7 1) (C := RX7) (T := TX7) (N := 7) hx hb hts iT_X7 tyX7 tyX7_ok nmX7 hown hK hP hD hS 0 rfl rfl 1 (by decide) (hts _ tw_2_66) (fun _ h9 => h9) rfl (tyX7_ok 1 (by decide)) rfl rfl (Nat.le_of_ble_eq_true rfl) dX7_weighTurn_39 (fun H locs hP hD hS => ?_)
    have hP : va_P D vwCl [(ob, .inr (7, [.int r_11, .int p1, .ref obc, .ref ob_3, .int obv4, .ref ob_5, .ref ob_6])), (tn_3, .inl (k 0, 10, .inl tng3)), (tn_4, .inl (k 0, 10, .inl tng4)), (tn_5, .inl (k 0, 10, .inl tng5)), (tn_9, .inl (k 0, 4, .inl tng9)), (tn_10, .inl (k 0, 4, .inl tng10)), (obc, .inr (1, [.ref obc_0, .int o_6, .int o_7])), (obc_0, .inl (k 0, 8, .inl o_8)), (tn, .inr (10, [.int tnv0, .int tnv1, .int tnv2, .ref tn_3, .ref tn_4, .ref tn_5, .ref tn_6, .int tnv7, .int tnv8, .ref tn_9, .ref tn_10, .int tnv11, .ref tn_12, .ref tn_13, .ref tn_14, .ref tn_15, .int tnv16, .ref tn_17, .ref tn_18, .ref tnt])), (tn_12, .inl (k 0, 6, .inl tng12)), (tn_13, .inl (k 0, 6, .inl tng13)), (tn_14, .inl (k 0, 6, .inl tng14))] H := hP
    have hD : va_D A [(ob, .inr (7, [.int r_11, .int p1, .ref obc, .ref ob_3, .int obv4, .ref ob_5, .ref ob_6])), (tn_3, .inl (k 0, 10, .inl tng3)), (tn_4, .inl (k 0, 10, .inl tng4)), (tn_5, .inl (k 0, 10, .inl tng5)), (tn_9, .inl (k 0, 4, .inl tng9)), (tn_10, .inl (k 0, 4, .inl tng10)), (obc, .inr (1, [.ref obc_0, .int o_6, .int o_7])), (obc_0, .inl (k 0, 8, .inl o_8)), (tn, .inr (10, [.int tnv0, .int tnv1, .int tnv2, .ref tn_3, .ref tn_4, .ref tn_5, .ref tn_6, .int tnv7, .int tnv8, .ref tn_9, .ref tn_10, .int tnv11, .ref tn_12, .ref tn_13, .ref tn_14, .ref tn_15, .int tnv16, .ref tn_17, .ref tn_18, .ref tnt])), (tn_12, .inl (k 0, 6, .inl tng12)), (tn_13, .inl (k 0, 6, .inl tng13)), (tn_14, .inl (k 0, 6, .inl tng14))] := hD
    obtain ⟨hP9, hD9⟩ := sub2 hP hD (ws' := [(ob, .inr (7, [.int r_11, .int p1, .ref obc, .ref ob_3, .int obv4, .ref ob_5, .ref ob_6])), (obc, .inr (1, [.ref obc_0, .int o_6, .int o_7])), (obc_0, .inl (k 0, 8, .inl o_8)), (tn, .inr (10, [.int tnv0, .int tnv1, .int tnv2, .ref tn_3, .ref tn_4, .ref tn_5, .ref tn_6, .int tnv7, .int tnv8, .ref tn_9, .ref tn_10, .int tnv11, .ref tn_12, .ref tn_13, .ref tn_14, .ref tn_15, .int tnv16, .ref tn_17, .ref tn_18, .ref tnt])), (tn_3, .inl (k 0, 10, .inl tng3)), (tn_4, .inl (k 0, 10, .inl tng4)), (tn_5, .inl (k 0, 10, .inl tng5)), (tn_9, .inl (k 0, 4, .inl tng9)), (tn_10, .inl (k 0, 4, .inl tng10)), (tn_12, .inl (k 0, 6, .inl tng12)), (tn_13, .inl (k 0, 6, .inl tng13)), (tn_14, .inl (k 0, 6, .inl tng14))]) [0, 6, 7, 8, 1, 2, 3, 4, 5, 9, 10, 11] (by decide +kernel) rfl
    exact W.vret hx hb hr (fun tZ ht hW => ⟨⟨(o_6, o_7, o_8, r_11, p1), rfl, hw_10, by rw [ht]; exact hP9, va_K.moved hW.alike hK, hD9⟩, hS.F ht⟩) hS.2.2 dX7_weighTurn_42
set_option maxHeartbeats 4000000 in
set_option maxRecDepth 100000 in
theorem c_X7_turnLanes (l : Launch) (D : va_G) (k : Nat → ClassId) (ob : Nat) (tn : Nat) (p1 : Int32) (p2 : Int32) (obv0 : Int32) (obv1 : Int32) (obc : Nat) (ob_3 : Nat) (obv4 : Int32) (ob_5 : Nat) (ob_6 : Nat) (obc_0 : Nat) (obcv1 : Int32) (obcv2 : Int32) (obcg0 : Nat → Int32) (tnv0 : Int32) (tnv1 : Int32) (tnv2 : Int32) (tn_3 : Nat) (tn_4 : Nat) (tn_5 : Nat) (tn_6 : Nat) (tnv7 : Int32) (tnv8 : Int32) (tn_9 : Nat) (tn_10 : Nat) (tnv11 : Int32) (tn_12 : Nat) (tn_13 : Nat) (tn_14 : Nat) (tn_15 : Nat) (tnv16 : Int32) (tn_17 : Nat) (tn_18 : Nat) (tnt : Nat) (tng3 : Nat → Int32) (tng4 : Nat → Int32) (tng5 : Nat → Int32) (tng9 : Nat → Int32) (tng10 : Nat → Int32) (tng12 : Nat → Int32) (tng13 : Nat → Int32) (tng14 : Nat → Int32) (sz : Nat) (h_p2 : 0 ≤ p2.toInt ∧ p2.toInt ≤ 3) (h_obv4 : 0 ≤ obv4.toInt ∧ obv4.toInt ≤ 1024) (hp_obcg0_0 : PR 8 1 0 0 1000000 obcg0) (h_tnv0 : 0 ≤ tnv0.toInt ∧ tnv0.toInt ≤ 8) (h_tnv2 : 0 ≤ tnv2.toInt ∧ tnv2.toInt ≤ 10) (h_tnv8 : 0 ≤ tnv8.toInt ∧ tnv8.toInt ≤ 4) (h_tnv11 : 0 ≤ tnv11.toInt ∧ tnv11.toInt ≤ 6) (h_tnv16 : 0 ≤ tnv16.toInt ∧ tnv16.toInt ≤ 2) (hp_tng3_0 : PR 10 1 0 0 7 tng3) (hp_tng4_0 : PR 10 1 0 0 7 tng4) (hp_tng5_0 : PR 10 1 0 0 60 tng5) (hp_tng9_0 : PR 4 1 0 0 7 tng9) (hp_tng10_0 : PR 4 1 0 0 99 tng10) (hp_tng12_0 : PR 6 1 0 0 7 tng12) (hp_tng13_0 : PR 6 1 0 0 999 tng13) (hp_tng14_0 : PR 6 1 0 0 999 tng14) : Met l yX7_turnLanes (ww yX7_turnLanes cX7_turnLanes 6 none) ({ frames := 5, cells := 0, slots := 0, locals := 123 }) (Pre0 D k [(ob, .inr (7, [.int obv0, .int obv1, .ref obc, .ref ob_3, .int obv4, .ref ob_5, .ref ob_6])), (obc, .inr (1, [.ref obc_0, .int obcv1, .int obcv2])), (obc_0, .inl (k 0, 8, .inl obcg0)), (tn, .inr (10, [.int tnv0, .int tnv1, .int tnv2, .ref tn_3, .ref tn_4, .ref tn_5, .ref tn_6, .int tnv7, .int tnv8, .ref tn_9, .ref tn_10, .int tnv11, .ref tn_12, .ref tn_13, .ref tn_14, .ref tn_15, .int tnv16, .ref tn_17, .ref tn_18, .ref tnt])), (tn_3, .inl (k 0, 10, .inl tng3)), (tn_4, .inl (k 0, 10, .inl tng4)), (tn_5, .inl (k 0, 10, .inl tng5)), (tn_9, .inl (k 0, 4, .inl tng9)), (tn_10, .inl (k 0, 4, .inl tng10)), (tn_12, .inl (k 0, 6, .inl tng12)), (tn_13, .inl (k 0, 6, .inl tng13)), (tn_14, .inl (k 0, 6, .inl tng14))] sz [.ref ob, .ref tn, .int p1, .int p2]) (va_Qv (fun (u : Int32 × Int32 × Int32 × Int32 × (Nat → Int32)) => match u with | (obv0z, obv1z, obcv1z, obcv2z, obcg0z) => (PR 8 1 0 0 1000000 obcg0z)) (fun (u : Int32 × Int32 × Int32 × Int32 × (Nat → Int32)) tZ => match u with | (obv0z, obv1z, obcv1z, obcv2z, obcg0z) => Bw D k (va_A [(ob, .inr (7, [.int obv0, .int obv1, .ref obc, .ref ob_3, .int obv4, .ref ob_5, .ref ob_6])), (obc, .inr (1, [.ref obc_0, .int obcv1, .int obcv2])), (obc_0, .inl (k 0, 8, .inl obcg0)), (tn, .inr (10, [.int tnv0, .int tnv1, .int tnv2, .ref tn_3, .ref tn_4, .ref tn_5, .ref tn_6, .int tnv7, .int tnv8, .ref tn_9, .ref tn_10, .int tnv11, .ref tn_12, .ref tn_13, .ref tn_14, .ref tn_15, .int tnv16, .ref tn_17, .ref tn_18, .ref tnt])), (tn_3, .inl (k 0, 10, .inl tng3)), (tn_4, .inl (k 0, 10, .inl tng4)), (tn_5, .inl (k 0, 10, .inl tng5)), (tn_9, .inl (k 0, 4, .inl tng9)), (tn_10, .inl (k 0, 4, .inl tng10)), (tn_12, .inl (k 0, 6, .inl tng12)), (tn_13, .inl (k 0, 6, .inl tng13)), (tn_14, .inl (k 0, 6, .inl tng14))] sz) [(ob, .inr (7, [.int obv0z, .int obv1z, .ref obc, .ref ob_3, .int obv4, .ref ob_5, .ref ob_6])), (obc, .inr (1, [.ref obc_0, .int obcv1z, .int obcv2z])), (obc_0, .inl (k 0, 8, .inl obcg0z)), (tn, .inr (10, [.int tnv0, .int tnv1, .int tnv2, .ref tn_3, .ref tn_4, .ref tn_5, .ref tn_6, .int tnv7, .int tnv8, .ref tn_9, .ref tn_10, .int tnv11, .ref tn_12, .ref tn_13, .ref tn_14, .ref tn_15, .int tnv16, .ref tn_17, .ref tn_18, .ref tnt])), (tn_3, .inl (k 0, 10, .inl tng3)), (tn_4, .inl (k 0, 10, .inl tng4)), (tn_5, .inl (k 0, 10, .inl tng5)), (tn_9, .inl (k 0, 4, .inl tng9)), (tn_10, .inl (k 0, 4, .inl tng10)), (tn_12, .inl (k 0, 6, .inl tng12)), (tn_13, .inl (k 0, 6, .inl tng13)), (tn_14, .inl (k 0, 6, .inl tng14))] tZ) (va_A [(ob, .inr (7, [.int obv0, .int obv1, .ref obc, .ref ob_3, .int obv4, .ref ob_5, .ref ob_6])), (obc, .inr (1, [.ref obc_0, .int obcv1, .int obcv2])), (obc_0, .inl (k 0, 8, .inl obcg0)), (tn, .inr (10, [.int tnv0, .int tnv1, .int tnv2, .ref tn_3, .ref tn_4, .ref tn_5, .ref tn_6, .int tnv7, .int tnv8, .ref tn_9, .ref tn_10, .int tnv11, .ref tn_12, .ref tn_13, .ref tn_14, .ref tn_15, .int tnv16, .ref tn_17, .ref tn_18, .ref tnt])), (tn_3, .inl (k 0, 10, .inl tng3)), (tn_4, .inl (k 0, 10, .inl tng4)), (tn_5, .inl (k 0, 10, .inl tng5)), (tn_9, .inl (k 0, 4, .inl tng9)), (tn_10, .inl (k 0, 4, .inl tng10)), (tn_12, .inl (k 0, 6, .inl tng12)), (tn_13, .inl (k 0, 6, .inl tng13)), (tn_14, .inl (k 0, 6, .inl tng14))] sz)) 0 0 (va_A [(ob, .inr (7, [.int obv0, .int obv1, .ref obc, .ref ob_3, .int obv4, .ref ob_5, .ref ob_6])), (obc, .inr (1, [.ref obc_0, .int obcv1, .int obcv2])), (obc_0, .inl (k 0, 8, .inl obcg0)), (tn, .inr (10, [.int tnv0, .int tnv1, .int tnv2, .ref tn_3, .ref tn_4, .ref tn_5, .ref tn_6, .int tnv7, .int tnv8, .ref tn_9, .ref tn_10, .int tnv11, .ref tn_12, .ref tn_13, .ref tn_14, .ref tn_15, .int tnv16, .ref tn_17, .ref tn_18, .ref tnt])), (tn_3, .inl (k 0, 10, .inl tng3)), (tn_4, .inl (k 0, 10, .inl tng4)), (tn_5, .inl (k 0, 10, .inl tng5)), (tn_9, .inl (k 0, 4, .inl tng9)), (tn_10, .inl (k 0, 4, .inl tng10)), (tn_12, .inl (k 0, 6, .inl tng12)), (tn_13, .inl (k 0, 6, .inl tng13)), (tn_14, .inl (k 0, 6, .inl tng14))] sz) := by
  refine Met.ofW (cc := cX7_turnLanes) (maxL := 6) (ret := none) (by decide +kernel) rfl ?_
  intro p e s m args below meth c s₁ B hml hv
  obtain ⟨rfl, hsz, hP, hK, hD0, hN⟩ := hv
  have hx := B.exec
  have hb := B.bytes
  have hr := B.returns
  have hts : ∀ w ∈ TT, w.before _ s = true := fun w h => atoms_spec (ws := ww yX7_turnLanes cX7_turnLanes 6 none) B.pre w (List.mem_cons_of_mem _ h)
  have hown : s.vm.findClass RX7 = some m.cls := findClass_of_methodNamed B.named
  have hlocks := B.notSynchronized
  subst hsz
  have hD := hD0.self (sz := s.heap.size)
  generalize hAe : va_A [(ob, .inr (7, [.int obv0, .int obv1, .ref obc, .ref ob_3, .int obv4, .ref ob_5, .ref ob_6])), (obc, .inr (1, [.ref obc_0, .int obcv1, .int obcv2])), (obc_0, .inl (k 0, 8, .inl obcg0)), (tn, .inr (10, [.int tnv0, .int tnv1, .int tnv2, .ref tn_3, .ref tn_4, .ref tn_5, .ref tn_6, .int tnv7, .int tnv8, .ref tn_9, .ref tn_10, .int tnv11, .ref tn_12, .ref tn_13, .ref tn_14, .ref tn_15, .int tnv16, .ref tn_17, .ref tn_18, .ref tnt])), (tn_3, .inl (k 0, 10, .inl tng3)), (tn_4, .inl (k 0, 10, .inl tng4)), (tn_5, .inl (k 0, 10, .inl tng5)), (tn_9, .inl (k 0, 4, .inl tng9)), (tn_10, .inl (k 0, 4, .inl tng10)), (tn_12, .inl (k 0, 6, .inl tng12)), (tn_13, .inl (k 0, 6, .inl tng13)), (tn_14, .inl (k 0, 6, .inl tng14))] s.heap.size = A at hD ⊢
  have hA : ∀ q : Nat, s.heap.size ≤ q → A q := fun q h => by rw [← hAe]; exact Or.inr h
  have hS : va_S A s.heap s.heap [] := va_S.rf
  have hl := lv_entry ([.ref ob, .ref tn, .int p1, .int p2]) (n := 6) (Nat.le_of_ble_eq_true rfl)
  rw [lg_entry_eq]
  generalize (lg_sl ([.ref ob, .ref tn, .int p1, .int p2]) ++ List.replicate (6 - (lg_sl ([.ref ob, .ref tn, .int p1, .int p2])).length) Slot.unset).toArray = ls at hl ⊢
  have hl : lv_has ls 6 [(0, .ref ob), (1, .ref tn), (2, .int p1), (3, .int p2)] := hl
  refine lv_aload_n hx hb dX7_turnLanes_0 rfl (lv_at hl 0 rfl) ?_
  refine lv_iconst (v := (-1)) hx hb dX7_turnLanes_1 (by decide) ?_
  refine va_put (D := D) (ci := 7) (v := .int (-1)) (ty := tyX7 0) (C := RX7) (T := TX7) (N := 7) hx hb hts iT_X7 tyX7 tyX7_ok nmX7 hown hK hP hD hS 0 rfl rfl 0 (by decide) (hts _ tw_2_64) (fun _ h9 => h9) rfl (tyX7_ok 0 (by decide)) rfl rfl (Nat.le_of_ble_eq_true rfl) dX7_turnLanes_2 (fun H locs hP hD hS => ?_)
  have hP : va_P D vwCl [(ob, .inr (7, [.int (-1), .int obv1, .ref obc, .ref ob_3, .int obv4, .ref ob_5, .ref ob_6])), (obc, .inr (1, [.ref obc_0, .int obcv1, .int obcv2])), (obc_0, .inl (k 0, 8, .inl obcg0)), (tn, .inr (10, [.int tnv0, .int tnv1, .int tnv2, .ref tn_3, .ref tn_4, .ref tn_5, .ref tn_6, .int tnv7, .int tnv8, .ref tn_9, .ref tn_10, .int tnv11, .ref tn_12, .ref tn_13, .ref tn_14, .ref tn_15, .int tnv16, .ref tn_17, .ref tn_18, .ref tnt])), (tn_3, .inl (k 0, 10, .inl tng3)), (tn_4, .inl (k 0, 10, .inl tng4)), (tn_5, .inl (k 0, 10, .inl tng5)), (tn_9, .inl (k 0, 4, .inl tng9)), (tn_10, .inl (k 0, 4, .inl tng10)), (tn_12, .inl (k 0, 6, .inl tng12)), (tn_13, .inl (k 0, 6, .inl tng13)), (tn_14, .inl (k 0, 6, .inl tng14))] H := hP
  have hD : va_D A [(ob, .inr (7, [.int (-1), .int obv1, .ref obc, .ref ob_3, .int obv4, .ref ob_5, .ref ob_6])), (obc, .inr (1, [.ref obc_0, .int obcv1, .int obcv2])), (obc_0, .inl (k 0, 8, .inl obcg0)), (tn, .inr (10, [.int tnv0, .int tnv1, .int tnv2, .ref tn_3, .ref tn_4, .ref tn_5, .ref tn_6, .int tnv7, .int tnv8, .ref tn_9, .ref tn_10, .int tnv11, .ref tn_12, .ref tn_13, .ref tn_14, .ref tn_15, .int tnv16, .ref tn_17, .ref tn_18, .ref tnt])), (tn_3, .inl (k 0, 10, .inl tng3)), (tn_4, .inl (k 0, 10, .inl tng4)), (tn_5, .inl (k 0, 10, .inl tng5)), (tn_9, .inl (k 0, 4, .inl tng9)), (tn_10, .inl (k 0, 4, .inl tng10)), (tn_12, .inl (k 0, 6, .inl tng12)), (tn_13, .inl (k 0, 6, .inl tng13)), (tn_14, .inl (k 0, 6, .inl tng14))] := hD
  refine lv_iconst (v := 0) hx hb dX7_turnLanes_5 (by decide) ?_
  refine lv_istore (lv' := [(4, .int 0), (0, .ref ob), (1, .ref tn), (2, .int p1), (3, .int p2)]) hx hb dX7_turnLanes_6 hl (by decide) rfl (fun ls hl => ?_)
  refine loop_r (Wg := fun H locs ls => W p l e _ s m _ below meth c H locs _ _ _ (F0 m 8 ls [])) (fun n9 H locs ls => ∃ (L8l4 : Int32) (L8f0x0 : Int32) (L8f0x1 : Int32) (L8f1x1 : Int32) (L8f1x2 : Int32) (L8a2 : Nat → Int32), n9 = (4 - L8l4.toInt).toNat ∧ (0 ≤ L8l4.toInt ∧ L8l4.toInt ≤ 4) ∧ (PR 8 1 0 0 1000000 L8a2) ∧ va_P D vwCl [(ob, .inr (7, [.int L8f0x0, .int L8f0x1, .ref obc, .ref ob_3, .int obv4, .ref ob_5, .ref ob_6])), (obc, .inr (1, [.ref obc_0, .int L8f1x1, .int L8f1x2])), (obc_0, .inl (k 0, 8, .inl L8a2)), (tn, .inr (10, [.int tnv0, .int tnv1, .int tnv2, .ref tn_3, .ref tn_4, .ref tn_5, .ref tn_6, .int tnv7, .int tnv8, .ref tn_9, .ref tn_10, .int tnv11, .ref tn_12, .ref tn_13, .ref tn_14, .ref tn_15, .int tnv16, .ref tn_17, .ref tn_18, .ref tnt])), (tn_3, .inl (k 0, 10, .inl tng3)), (tn_4, .inl (k 0, 10, .inl tng4)), (tn_5, .inl (k 0, 10, .inl tng5)), (tn_9, .inl (k 0, 4, .inl tng9)), (tn_10, .inl (k 0, 4, .inl tng10)), (tn_12, .inl (k 0, 6, .inl tng12)), (tn_13, .inl (k 0, 6, .inl tng13)), (tn_14, .inl (k 0, 6, .inl tng14))] H ∧ va_D A [(ob, .inr (7, [.int L8f0x0, .int L8f0x1, .ref obc, .ref ob_3, .int obv4, .ref ob_5, .ref ob_6])), (obc, .inr (1, [.ref obc_0, .int L8f1x1, .int L8f1x2])), (obc_0, .inl (k 0, 8, .inl L8a2)), (tn, .inr (10, [.int tnv0, .int tnv1, .int tnv2, .ref tn_3, .ref tn_4, .ref tn_5, .ref tn_6, .int tnv7, .int tnv8, .ref tn_9, .ref tn_10, .int tnv11, .ref tn_12, .ref tn_13, .ref tn_14, .ref tn_15, .int tnv16, .ref tn_17, .ref tn_18, .ref tnt])), (tn_3, .inl (k 0, 10, .inl tng3)), (tn_4, .inl (k 0, 10, .inl tng4)), (tn_5, .inl (k 0, 10, .inl tng5)), (tn_9, .inl (k 0, 4, .inl tng9)), (tn_10, .inl (k 0, 4, .inl tng10)), (tn_12, .inl (k 0, 6, .inl tng12)), (tn_13, .inl (k 0, 6, .inl tng13)), (tn_14, .inl (k 0, 6, .inl tng14))] ∧ va_S A s.heap H locs ∧ lv_has ls 6 [(0, .ref ob), (1, .ref tn), (2, .int p1), (3, .int p2), (4, .int L8l4)]) (fun n9 H locs ls hI ih_1 => ?_) _ _ _ _ ⟨0, (-1), obv1, obcv1, obcv2, obcg0, rfl, (show 0 ≤ 0 ∧ 0 ≤ 4 from by omega), hp_obcg0_0, hP.sub (ws' := [(ob, .inr (7, [.int (-1), .int obv1, .ref obc, .ref ob_3, .int obv4, .ref ob_5, .ref ob_6])), (obc, .inr (1, [.ref obc_0, .int obcv1, .int obcv2])), (obc_0, .inl (k 0, 8, .inl obcg0)), (tn, .inr (10, [.int tnv0, .int tnv1, .int tnv2, .ref tn_3, .ref tn_4, .ref tn_5, .ref tn_6, .int tnv7, .int tnv8, .ref tn_9, .ref tn_10, .int tnv11, .ref tn_12, .ref tn_13, .ref tn_14, .ref tn_15, .int tnv16, .ref tn_17, .ref tn_18, .ref tnt])), (tn_3, .inl (k 0, 10, .inl tng3)), (tn_4, .inl (k 0, 10, .inl tng4)), (tn_5, .inl (k 0, 10, .inl tng5)), (tn_9, .inl (k 0, 4, .inl tng9)), (tn_10, .inl (k 0, 4, .inl tng10)), (tn_12, .inl (k 0, 6, .inl tng12)), (tn_13, .inl (k 0, 6, .inl tng13)), (tn_14, .inl (k 0, 6, .inl tng14))]) [0, 1, 2, 3, 4, 5, 6, 7, 8, 9, 10, 11] rfl, hD.sub (ws' := [(ob, .inr (7, [.int (-1), .int obv1, .ref obc, .ref ob_3, .int obv4, .ref ob_5, .ref ob_6])), (obc, .inr (1, [.ref obc_0, .int obcv1, .int obcv2])), (obc_0, .inl (k 0, 8, .inl obcg0)), (tn, .inr (10, [.int tnv0, .int tnv1, .int tnv2, .ref tn_3, .ref tn_4, .ref tn_5, .ref tn_6, .int tnv7, .int tnv8, .ref tn_9, .ref tn_10, .int tnv11, .ref tn_12, .ref tn_13, .ref tn_14, .ref tn_15, .int tnv16, .ref tn_17, .ref tn_18, .ref tnt])), (tn_3, .inl (k 0, 10, .inl tng3)), (tn_4, .inl (k 0, 10, .inl tng4)), (tn_5, .inl (k 0, 10, .inl tng5)), (tn_9, .inl (k 0, 4, .inl tng9)), (tn_10, .inl (k 0, 4, .inl tng10)), (tn_12, .inl (k 0, 6, .inl tng12)), (tn_13, .inl (k 0, 6, .inl tng13)), (tn_14, .inl (k 0, 6, .inl tng14))]) [0, 1, 2, 3, 4, 5, 6, 7, 8, 9, 10, 11] (by decide +kernel) rfl, hS, lv_sub hl [1, 2, 3, 4, 0] rfl⟩
  clear hP hD hS hl
  obtain ⟨L8l4, L8f0x0, L8f0x1, L8f1x1, L8f1x2, L8a2, en_2, zL8l4, L8a2h0, hP, hD, hS, hl⟩ := hI
  refine lv_iload hx hb dX7_turnLanes_8 (lv_at hl 4 rfl) ?_
  refine lv_iload_n hx hb dX7_turnLanes_10 rfl (lv_at hl 3 rfl) ?_
  refine lv_icmp_gt (tgt := 69) hx hb dX7_turnLanes_11 (by decide) (fun h_3 => ?_) (fun h_3 => ?_)
  · skip
    have zh_3 : p2.toInt < L8l4.toInt := z_lt h_3
    obtain ⟨hP9, hD9⟩ := sub2 hP hD (ws' := [(ob, .inr (7, [.int L8f0x0, .int L8f0x1, .ref obc, .ref ob_3, .int obv4, .ref ob_5, .ref ob_6])), (obc, .inr (1, [.ref obc_0, .int L8f1x1, .int L8f1x2])), (obc_0, .inl (k 0, 8, .inl L8a2)), (tn, .inr (10, [.int tnv0, .int tnv1, .int tnv2, .ref tn_3, .ref tn_4, .ref tn_5, .ref tn_6, .int tnv7, .int tnv8, .ref tn_9, .ref tn_10, .int tnv11, .ref tn_12, .ref tn_13, .ref tn_14, .ref tn_15, .int tnv16, .ref tn_17, .ref tn_18, .ref tnt])), (tn_3, .inl (k 0, 10, .inl tng3)), (tn_4, .inl (k 0, 10, .inl tng4)), (tn_5, .inl (k 0, 10, .inl tng5)), (tn_9, .inl (k 0, 4, .inl tng9)), (tn_10, .inl (k 0, 4, .inl tng10)), (tn_12, .inl (k 0, 6, .inl tng12)), (tn_13, .inl (k 0, 6, .inl tng13)), (tn_14, .inl (k 0, 6, .inl tng14))]) [0, 1, 2, 3, 4, 5, 6, 7, 8, 9, 10, 11] (by decide +kernel) rfl
    exact W.vret hx hb hr (fun tZ ht hW => ⟨⟨(L8f0x0, L8f0x1, L8f1x1, L8f1x2, L8a2), rfl, L8a2h0, by rw [ht]; exact hP9, va_K.moved hW.alike hK, hD9⟩, hS.F ht⟩) hS.2.2 dX7_turnLanes_69
  · skip
    have zh_3 : L8l4.toInt ≤ p2.toInt := z_nlt h_3
    refine lv_iconst (v := 0) hx hb dX7_turnLanes_14 (by decide) ?_
    refine lv_istore (lv' := [(5, .int 0), (0, .ref ob), (1, .ref tn), (2, .int p1), (3, .int p2), (4, .int L8l4)]) hx hb dX7_turnLanes_15 hl (by decide) rfl (fun ls hl => ?_)
    refine loop_r (Wg := fun H locs ls => W p l e _ s m _ below meth c H locs _ _ _ (F0 m 17 ls [])) (fun n9 H locs ls => ∃ (L17l5 : Int32) (L17f0x0 : Int32) (L17f0x1 : Int32) (L17f1x1 : Int32) (L17f1x2 : Int32) (L17a2 : Nat → Int32), n9 = (1024 - L17l5.toInt).toNat ∧ (0 ≤ L17l5.toInt ∧ L17l5.toInt ≤ 1024) ∧ (PR 8 1 0 0 1000000 L17a2) ∧ va_P D vwCl [(ob, .inr (7, [.int L17f0x0, .int L17f0x1, .ref obc, .ref ob_3, .int obv4, .ref ob_5, .ref ob_6])), (obc, .inr (1, [.ref obc_0, .int L17f1x1, .int L17f1x2])), (obc_0, .inl (k 0, 8, .inl L17a2)), (tn, .inr (10, [.int tnv0, .int tnv1, .int tnv2, .ref tn_3, .ref tn_4, .ref tn_5, .ref tn_6, .int tnv7, .int tnv8, .ref tn_9, .ref tn_10, .int tnv11, .ref tn_12, .ref tn_13, .ref tn_14, .ref tn_15, .int tnv16, .ref tn_17, .ref tn_18, .ref tnt])), (tn_3, .inl (k 0, 10, .inl tng3)), (tn_4, .inl (k 0, 10, .inl tng4)), (tn_5, .inl (k 0, 10, .inl tng5)), (tn_9, .inl (k 0, 4, .inl tng9)), (tn_10, .inl (k 0, 4, .inl tng10)), (tn_12, .inl (k 0, 6, .inl tng12)), (tn_13, .inl (k 0, 6, .inl tng13)), (tn_14, .inl (k 0, 6, .inl tng14))] H ∧ va_D A [(ob, .inr (7, [.int L17f0x0, .int L17f0x1, .ref obc, .ref ob_3, .int obv4, .ref ob_5, .ref ob_6])), (obc, .inr (1, [.ref obc_0, .int L17f1x1, .int L17f1x2])), (obc_0, .inl (k 0, 8, .inl L17a2)), (tn, .inr (10, [.int tnv0, .int tnv1, .int tnv2, .ref tn_3, .ref tn_4, .ref tn_5, .ref tn_6, .int tnv7, .int tnv8, .ref tn_9, .ref tn_10, .int tnv11, .ref tn_12, .ref tn_13, .ref tn_14, .ref tn_15, .int tnv16, .ref tn_17, .ref tn_18, .ref tnt])), (tn_3, .inl (k 0, 10, .inl tng3)), (tn_4, .inl (k 0, 10, .inl tng4)), (tn_5, .inl (k 0, 10, .inl tng5)), (tn_9, .inl (k 0, 4, .inl tng9)), (tn_10, .inl (k 0, 4, .inl tng10)), (tn_12, .inl (k 0, 6, .inl tng12)), (tn_13, .inl (k 0, 6, .inl tng13)), (tn_14, .inl (k 0, 6, .inl tng14))] ∧ va_S A s.heap H locs ∧ lv_has ls 6 [(0, .ref ob), (1, .ref tn), (2, .int p1), (3, .int p2), (4, .int L8l4), (5, .int L17l5)]) (fun n9 H locs ls hI ih_4 => ?_) _ _ _ _ ⟨0, L8f0x0, L8f0x1, L8f1x1, L8f1x2, L8a2, rfl, (show 0 ≤ 0 ∧ 0 ≤ 1024 from by omega), L8a2h0, hP.sub (ws' := [(ob, .inr (7, [.int L8f0x0, .int L8f0x1, .ref obc, .ref ob_3, .int obv4, .ref ob_5, .ref ob_6])), (obc, .inr (1, [.ref obc_0, .int L8f1x1, .int L8f1x2])), (obc_0, .inl (k 0, 8, .inl L8a2)), (tn, .inr (10, [.int tnv0, .int tnv1, .int tnv2, .ref tn_3, .ref tn_4, .ref tn_5, .ref tn_6, .int tnv7, .int tnv8, .ref tn_9, .ref tn_10, .int tnv11, .ref tn_12, .ref tn_13, .ref tn_14, .ref tn_15, .int tnv16, .ref tn_17, .ref tn_18, .ref tnt])), (tn_3, .inl (k 0, 10, .inl tng3)), (tn_4, .inl (k 0, 10, .inl tng4)), (tn_5, .inl (k 0, 10, .inl tng5)), (tn_9, .inl (k 0, 4, .inl tng9)), (tn_10, .inl (k 0, 4, .inl tng10)), (tn_12, .inl (k 0, 6, .inl tng12)), (tn_13, .inl (k 0, 6, .inl tng13)), (tn_14, .inl (k 0, 6, .inl tng14))]) [0, 1, 2, 3, 4, 5, 6, 7, 8, 9, 10, 11] rfl, hD.sub (ws' := [(ob, .inr (7, [.int L8f0x0, .int L8f0x1, .ref obc, .ref ob_3, .int obv4, .ref ob_5, .ref ob_6])), (obc, .inr (1, [.ref obc_0, .int L8f1x1, .int L8f1x2])), (obc_0, .inl (k 0, 8, .inl L8a2)), (tn, .inr (10, [.int tnv0, .int tnv1, .int tnv2, .ref tn_3, .ref tn_4, .ref tn_5, .ref tn_6, .int tnv7, .int tnv8, .ref tn_9, .ref tn_10, .int tnv11, .ref tn_12, .ref tn_13, .ref tn_14, .ref tn_15, .int tnv16, .ref tn_17, .ref tn_18, .ref tnt])), (tn_3, .inl (k 0, 10, .inl tng3)), (tn_4, .inl (k 0, 10, .inl tng4)), (tn_5, .inl (k 0, 10, .inl tng5)), (tn_9, .inl (k 0, 4, .inl tng9)), (tn_10, .inl (k 0, 4, .inl tng10)), (tn_12, .inl (k 0, 6, .inl tng12)), (tn_13, .inl (k 0, 6, .inl tng13)), (tn_14, .inl (k 0, 6, .inl tng14))]) [0, 1, 2, 3, 4, 5, 6, 7, 8, 9, 10, 11] (by decide +kernel) rfl, hS, lv_sub hl [1, 2, 3, 4, 5, 0] rfl⟩
    clear hP hD hS hl
    obtain ⟨L17l5, L17f0x0, L17f0x1, L17f1x1, L17f1x2, L17a2, en_5, zL17l5, L17a2h0, hP, hD, hS, hl⟩ := hI
    refine lv_iload hx hb dX7_turnLanes_17 (lv_at hl 5 rfl) ?_
    refine lv_iload_n hx hb dX7_turnLanes_19 rfl (lv_at hl 2 rfl) ?_
    refine lv_icmp_gt (tgt := 63) hx hb dX7_turnLanes_20 (by decide) (fun h_6 => ?_) (fun h_6 => ?_)
    · skip
      have zh_6 : p1.toInt < L17l5.toInt := z_lt h_6
      obtain ⟨x_7, ex_7⟩ : ∃ y : Int32, y = L8l4 + 1 := ⟨_, rfl⟩
      have zx_7 : x_7.toInt = L8l4.toInt + 1 := by rw [ex_7]; exact z_add rfl rfl (by omega) (by omega)
      refine lv_iinc (v := x_7) (lv' := [(4, .int x_7), (0, .ref ob), (1, .ref tn), (2, .int p1), (3, .int p2), (5, .int L17l5)]) hx hb dX7_turnLanes_63 hl (k := 4) rfl (by rw [ex_7]; rfl) (by decide) rfl (fun ls hl => ?_)
      refine lv_goto (tgt := 8) hx hb dX7_turnLanes_66 (by decide) ?_
      exact ih_1 _ _ _ _ (by omega) ⟨x_7, L17f0x0, L17f0x1, L17f1x1, L17f1x2, L17a2, rfl, (show 0 ≤ x_7.toInt ∧ x_7.toInt ≤ 4 from by omega), L17a2h0, hP.sub (ws' := [(ob, .inr (7, [.int L17f0x0, .int L17f0x1, .ref obc, .ref ob_3, .int obv4, .ref ob_5, .ref ob_6])), (obc, .inr (1, [.ref obc_0, .int L17f1x1, .int L17f1x2])), (obc_0, .inl (k 0, 8, .inl L17a2)), (tn, .inr (10, [.int tnv0, .int tnv1, .int tnv2, .ref tn_3, .ref tn_4, .ref tn_5, .ref tn_6, .int tnv7, .int tnv8, .ref tn_9, .ref tn_10, .int tnv11, .ref tn_12, .ref tn_13, .ref tn_14, .ref tn_15, .int tnv16, .ref tn_17, .ref tn_18, .ref tnt])), (tn_3, .inl (k 0, 10, .inl tng3)), (tn_4, .inl (k 0, 10, .inl tng4)), (tn_5, .inl (k 0, 10, .inl tng5)), (tn_9, .inl (k 0, 4, .inl tng9)), (tn_10, .inl (k 0, 4, .inl tng10)), (tn_12, .inl (k 0, 6, .inl tng12)), (tn_13, .inl (k 0, 6, .inl tng13)), (tn_14, .inl (k 0, 6, .inl tng14))]) [0, 1, 2, 3, 4, 5, 6, 7, 8, 9, 10, 11] rfl, hD.sub (ws' := [(ob, .inr (7, [.int L17f0x0, .int L17f0x1, .ref obc, .ref ob_3, .int obv4, .ref ob_5, .ref ob_6])), (obc, .inr (1, [.ref obc_0, .int L17f1x1, .int L17f1x2])), (obc_0, .inl (k 0, 8, .inl L17a2)), (tn, .inr (10, [.int tnv0, .int tnv1, .int tnv2, .ref tn_3, .ref tn_4, .ref tn_5, .ref tn_6, .int tnv7, .int tnv8, .ref tn_9, .ref tn_10, .int tnv11, .ref tn_12, .ref tn_13, .ref tn_14, .ref tn_15, .int tnv16, .ref tn_17, .ref tn_18, .ref tnt])), (tn_3, .inl (k 0, 10, .inl tng3)), (tn_4, .inl (k 0, 10, .inl tng4)), (tn_5, .inl (k 0, 10, .inl tng5)), (tn_9, .inl (k 0, 4, .inl tng9)), (tn_10, .inl (k 0, 4, .inl tng10)), (tn_12, .inl (k 0, 6, .inl tng12)), (tn_13, .inl (k 0, 6, .inl tng13)), (tn_14, .inl (k 0, 6, .inl tng14))]) [0, 1, 2, 3, 4, 5, 6, 7, 8, 9, 10, 11] (by decide +kernel) rfl, hS, lv_sub hl [1, 2, 3, 4, 0] rfl⟩
    · skip
      have zh_6 : L17l5.toInt ≤ p1.toInt := z_nlt h_6
      refine lv_iload hx hb dX7_turnLanes_23 (lv_at hl 5 rfl) ?_
      refine lv_sipush (v := 1024) hx hb dX7_turnLanes_25 (by decide) ?_
      refine lv_icmp_ge (tgt := 63) hx hb dX7_turnLanes_28 (by decide) (fun h_8 => ?_) (fun h_8 => ?_)
      · skip
        have zh_8 : 1024 ≤ L17l5.toInt := z_le h_8
        obtain ⟨x_9, ex_9⟩ : ∃ y : Int32, y = L8l4 + 1 := ⟨_, rfl⟩
        have zx_9 : x_9.toInt = L8l4.toInt + 1 := by rw [ex_9]; exact z_add rfl rfl (by omega) (by omega)
        refine lv_iinc (v := x_9) (lv' := [(4, .int x_9), (0, .ref ob), (1, .ref tn), (2, .int p1), (3, .int p2), (5, .int L17l5)]) hx hb dX7_turnLanes_63 hl (k := 4) rfl (by rw [ex_9]; rfl) (by decide) rfl (fun ls hl => ?_)
        refine lv_goto (tgt := 8) hx hb dX7_turnLanes_66 (by decide) ?_
        exact ih_1 _ _ _ _ (by omega) ⟨x_9, L17f0x0, L17f0x1, L17f1x1, L17f1x2, L17a2, rfl, (show 0 ≤ x_9.toInt ∧ x_9.toInt ≤ 4 from by omega), L17a2h0, hP.sub (ws' := [(ob, .inr (7, [.int L17f0x0, .int L17f0x1, .ref obc, .ref ob_3, .int obv4, .ref ob_5, .ref ob_6])), (obc, .inr (1, [.ref obc_0, .int L17f1x1, .int L17f1x2])), (obc_0, .inl (k 0, 8, .inl L17a2)), (tn, .inr (10, [.int tnv0, .int tnv1, .int tnv2, .ref tn_3, .ref tn_4, .ref tn_5, .ref tn_6, .int tnv7, .int tnv8, .ref tn_9, .ref tn_10, .int tnv11, .ref tn_12, .ref tn_13, .ref tn_14, .ref tn_15, .int tnv16, .ref tn_17, .ref tn_18, .ref tnt])), (tn_3, .inl (k 0, 10, .inl tng3)), (tn_4, .inl (k 0, 10, .inl tng4)), (tn_5, .inl (k 0, 10, .inl tng5)), (tn_9, .inl (k 0, 4, .inl tng9)), (tn_10, .inl (k 0, 4, .inl tng10)), (tn_12, .inl (k 0, 6, .inl tng12)), (tn_13, .inl (k 0, 6, .inl tng13)), (tn_14, .inl (k 0, 6, .inl tng14))]) [0, 1, 2, 3, 4, 5, 6, 7, 8, 9, 10, 11] rfl, hD.sub (ws' := [(ob, .inr (7, [.int L17f0x0, .int L17f0x1, .ref obc, .ref ob_3, .int obv4, .ref ob_5, .ref ob_6])), (obc, .inr (1, [.ref obc_0, .int L17f1x1, .int L17f1x2])), (obc_0, .inl (k 0, 8, .inl L17a2)), (tn, .inr (10, [.int tnv0, .int tnv1, .int tnv2, .ref tn_3, .ref tn_4, .ref tn_5, .ref tn_6, .int tnv7, .int tnv8, .ref tn_9, .ref tn_10, .int tnv11, .ref tn_12, .ref tn_13, .ref tn_14, .ref tn_15, .int tnv16, .ref tn_17, .ref tn_18, .ref tnt])), (tn_3, .inl (k 0, 10, .inl tng3)), (tn_4, .inl (k 0, 10, .inl tng4)), (tn_5, .inl (k 0, 10, .inl tng5)), (tn_9, .inl (k 0, 4, .inl tng9)), (tn_10, .inl (k 0, 4, .inl tng10)), (tn_12, .inl (k 0, 6, .inl tng12)), (tn_13, .inl (k 0, 6, .inl tng13)), (tn_14, .inl (k 0, 6, .inl tng14))]) [0, 1, 2, 3, 4, 5, 6, 7, 8, 9, 10, 11] (by decide +kernel) rfl, hS, lv_sub hl [1, 2, 3, 4, 0] rfl⟩
      · skip
        have zh_8 : L17l5.toInt < 1024 := z_nle h_8
        refine lv_iload hx hb dX7_turnLanes_31 (lv_at hl 5 rfl) ?_
        refine lv_iload_n hx hb dX7_turnLanes_33 rfl (lv_at hl 2 rfl) ?_
        refine lv_iconst (v := (-1)) hx hb dX7_turnLanes_34 (by decide) ?_
        refine lv_ixor hx hb dX7_turnLanes_35 ?_
        refine lv_topi (fun x_10 ex_10 => ?_)
        have zrp1 := z_rng p1
        refine lv_iand hx hb dX7_turnLanes_36 ?_
        refine lv_topi (fun x_11 ex_11 => ?_)
        have zrx_10 := z_rng x_10
        have zx_11 : 0 ≤ x_11.toInt ∧ x_11.toInt ≤ L17l5.toInt := by rw [ex_11]; exact z_andL (by omega)
        refine lv_if_ne (tgt := 57) hx hb dX7_turnLanes_37 (by decide) (fun h_12 => ?_) (fun h_12 => ?_)
        · skip
          have zh_12 : ¬ x_11.toInt = 0 := z_ne h_12
          obtain ⟨x_13, ex_13⟩ : ∃ y : Int32, y = L17l5 + 1 := ⟨_, rfl⟩
          have zx_13 : x_13.toInt = L17l5.toInt + 1 := by rw [ex_13]; exact z_add rfl rfl (by omega) (by omega)
          refine lv_iinc (v := x_13) (lv' := [(5, .int x_13), (0, .ref ob), (1, .ref tn), (2, .int p1), (3, .int p2), (4, .int L8l4)]) hx hb dX7_turnLanes_57 hl (k := 5) rfl (by rw [ex_13]; rfl) (by decide) rfl (fun ls hl => ?_)
          refine lv_goto (tgt := 17) hx hb dX7_turnLanes_60 (by decide) ?_
          exact ih_4 _ _ _ _ (by omega) ⟨x_13, L17f0x0, L17f0x1, L17f1x1, L17f1x2, L17a2, rfl, (show 0 ≤ x_13.toInt ∧ x_13.toInt ≤ 1024 from by omega), L17a2h0, hP.sub (ws' := [(ob, .inr (7, [.int L17f0x0, .int L17f0x1, .ref obc, .ref ob_3, .int obv4, .ref ob_5, .ref ob_6])), (obc, .inr (1, [.ref obc_0, .int L17f1x1, .int L17f1x2])), (obc_0, .inl (k 0, 8, .inl L17a2)), (tn, .inr (10, [.int tnv0, .int tnv1, .int tnv2, .ref tn_3, .ref tn_4, .ref tn_5, .ref tn_6, .int tnv7, .int tnv8, .ref tn_9, .ref tn_10, .int tnv11, .ref tn_12, .ref tn_13, .ref tn_14, .ref tn_15, .int tnv16, .ref tn_17, .ref tn_18, .ref tnt])), (tn_3, .inl (k 0, 10, .inl tng3)), (tn_4, .inl (k 0, 10, .inl tng4)), (tn_5, .inl (k 0, 10, .inl tng5)), (tn_9, .inl (k 0, 4, .inl tng9)), (tn_10, .inl (k 0, 4, .inl tng10)), (tn_12, .inl (k 0, 6, .inl tng12)), (tn_13, .inl (k 0, 6, .inl tng13)), (tn_14, .inl (k 0, 6, .inl tng14))]) [0, 1, 2, 3, 4, 5, 6, 7, 8, 9, 10, 11] rfl, hD.sub (ws' := [(ob, .inr (7, [.int L17f0x0, .int L17f0x1, .ref obc, .ref ob_3, .int obv4, .ref ob_5, .ref ob_6])), (obc, .inr (1, [.ref obc_0, .int L17f1x1, .int L17f1x2])), (obc_0, .inl (k 0, 8, .inl L17a2)), (tn, .inr (10, [.int tnv0, .int tnv1, .int tnv2, .ref tn_3, .ref tn_4, .ref tn_5, .ref tn_6, .int tnv7, .int tnv8, .ref tn_9, .ref tn_10, .int tnv11, .ref tn_12, .ref tn_13, .ref tn_14, .ref tn_15, .int tnv16, .ref tn_17, .ref tn_18, .ref tnt])), (tn_3, .inl (k 0, 10, .inl tng3)), (tn_4, .inl (k 0, 10, .inl tng4)), (tn_5, .inl (k 0, 10, .inl tng5)), (tn_9, .inl (k 0, 4, .inl tng9)), (tn_10, .inl (k 0, 4, .inl tng10)), (tn_12, .inl (k 0, 6, .inl tng12)), (tn_13, .inl (k 0, 6, .inl tng13)), (tn_14, .inl (k 0, 6, .inl tng14))]) [0, 1, 2, 3, 4, 5, 6, 7, 8, 9, 10, 11] (by decide +kernel) rfl, hS, lv_sub hl [1, 2, 3, 4, 5, 0] rfl⟩
        · skip
          have zh_12 : x_11.toInt = 0 := z_eq h_12
          refine lv_iload hx hb dX7_turnLanes_40 (lv_at hl 5 rfl) ?_
          obtain ⟨hPc, hDc, hFc⟩ := sub3 hP hD hS hA (ws' := []) [] (by decide +kernel) rfl
          refine va_calli (va_runS (As := [.int L17l5]) (rest := []) ⟨hx, hb, hml, hown, hts⟩ (c_J6_bitCount_0f7a4 l D k L17l5 H.size) (va_cwS 1 hts (gS tw_4_125 tw_4_101 tw_1_20 tw_4_102) rfl rfl rfl hdS_J6_bitCount_0f7a4 ⟨Nat.le_of_ble_eq_true rfl, Nat.le_of_ble_eq_true rfl⟩) (cz_S hK hPc hDc hN [.int L17l5]) rfl rfl hl.1 rfl (lv_room (Nat.le_of_ble_eq_true rfl)) dX7_turnLanes_42 ⟨Nat.le_of_ble_eq_true rfl, Nat.le_of_ble_eq_true rfl⟩) hS (fun q _ h => hFc q h) hFc (fun r_14 uZ tZ H1 locs ht hvm hw hB hz1 hk1 hS => ?_)
          obtain ⟨hP1, hK1, hD1⟩ := hB
          rw [ht] at hP1
          obtain ⟨hP, hD⟩ := va_join (wr := [(ob, .inr (7, [.int L17f0x0, .int L17f0x1, .ref obc, .ref ob_3, .int obv4, .ref ob_5, .ref ob_6])), (obc, .inr (1, [.ref obc_0, .int L17f1x1, .int L17f1x2])), (obc_0, .inl (k 0, 8, .inl L17a2)), (tn, .inr (10, [.int tnv0, .int tnv1, .int tnv2, .ref tn_3, .ref tn_4, .ref tn_5, .ref tn_6, .int tnv7, .int tnv8, .ref tn_9, .ref tn_10, .int tnv11, .ref tn_12, .ref tn_13, .ref tn_14, .ref tn_15, .int tnv16, .ref tn_17, .ref tn_18, .ref tnt])), (tn_3, .inl (k 0, 10, .inl tng3)), (tn_4, .inl (k 0, 10, .inl tng4)), (tn_5, .inl (k 0, 10, .inl tng5)), (tn_9, .inl (k 0, 4, .inl tng9)), (tn_10, .inl (k 0, 4, .inl tng10)), (tn_12, .inl (k 0, 6, .inl tng12)), (tn_13, .inl (k 0, 6, .inl tng13)), (tn_14, .inl (k 0, 6, .inl tng14))]) (w1 := []) hP hD [] [0, 1, 2, 3, 4, 5, 6, 7, 8, 9, 10, 11] rfl rfl (by decide +kernel) (by decide +kernel) hk1 hFc hP1 hD1
          clear hK1 hP1 hD1 hPc hDc hFc
          clear hk1 hz1 ht hvm
          have hP : va_P D vwCl [(ob, .inr (7, [.int L17f0x0, .int L17f0x1, .ref obc, .ref ob_3, .int obv4, .ref ob_5, .ref ob_6])), (obc, .inr (1, [.ref obc_0, .int L17f1x1, .int L17f1x2])), (obc_0, .inl (k 0, 8, .inl L17a2)), (tn, .inr (10, [.int tnv0, .int tnv1, .int tnv2, .ref tn_3, .ref tn_4, .ref tn_5, .ref tn_6, .int tnv7, .int tnv8, .ref tn_9, .ref tn_10, .int tnv11, .ref tn_12, .ref tn_13, .ref tn_14, .ref tn_15, .int tnv16, .ref tn_17, .ref tn_18, .ref tnt])), (tn_3, .inl (k 0, 10, .inl tng3)), (tn_4, .inl (k 0, 10, .inl tng4)), (tn_5, .inl (k 0, 10, .inl tng5)), (tn_9, .inl (k 0, 4, .inl tng9)), (tn_10, .inl (k 0, 4, .inl tng10)), (tn_12, .inl (k 0, 6, .inl tng12)), (tn_13, .inl (k 0, 6, .inl tng13)), (tn_14, .inl (k 0, 6, .inl tng14))] H1 := hP
          have hD : va_D A [(ob, .inr (7, [.int L17f0x0, .int L17f0x1, .ref obc, .ref ob_3, .int obv4, .ref ob_5, .ref ob_6])), (obc, .inr (1, [.ref obc_0, .int L17f1x1, .int L17f1x2])), (obc_0, .inl (k 0, 8, .inl L17a2)), (tn, .inr (10, [.int tnv0, .int tnv1, .int tnv2, .ref tn_3, .ref tn_4, .ref tn_5, .ref tn_6, .int tnv7, .int tnv8, .ref tn_9, .ref tn_10, .int tnv11, .ref tn_12, .ref tn_13, .ref tn_14, .ref tn_15, .int tnv16, .ref tn_17, .ref tn_18, .ref tnt])), (tn_3, .inl (k 0, 10, .inl tng3)), (tn_4, .inl (k 0, 10, .inl tng4)), (tn_5, .inl (k 0, 10, .inl tng5)), (tn_9, .inl (k 0, 4, .inl tng9)), (tn_10, .inl (k 0, 4, .inl tng10)), (tn_12, .inl (k 0, 6, .inl tng12)), (tn_13, .inl (k 0, 6, .inl tng13)), (tn_14, .inl (k 0, 6, .inl tng14))] := hD
          generalize H1 = H at hP hS ⊢
          have hw_15 : (0 ≤ r_14.toInt ∧ r_14.toInt ≤ 63) := hw
          have hw_16 := hw_15
          clear hw
          refine lv_iload hx hb dX7_turnLanes_45 (lv_at hl 4 rfl) ?_
          refine lv_icmp_ne (tgt := 57) hx hb dX7_turnLanes_47 (by decide) (fun h_17 => ?_) (fun h_17 => ?_)
          · skip
            have zh_17 : ¬ r_14.toInt = L8l4.toInt := z_ne h_17
            obtain ⟨x_18, ex_18⟩ : ∃ y : Int32, y = L17l5 + 1 := ⟨_, rfl⟩
            have zx_18 : x_18.toInt = L17l5.toInt + 1 := by rw [ex_18]; exact z_add rfl rfl (by omega) (by omega)
            refine lv_iinc (v := x_18) (lv' := [(5, .int x_18), (0, .ref ob), (1, .ref tn), (2, .int p1), (3, .int p2), (4, .int L8l4)]) hx hb dX7_turnLanes_57 hl (k := 5) rfl (by rw [ex_18]; rfl) (by decide) rfl (fun ls hl => ?_)
            refine lv_goto (tgt := 17) hx hb dX7_turnLanes_60 (by decide) ?_
            exact ih_4 _ _ _ _ (by omega) ⟨x_18, L17f0x0, L17f0x1, L17f1x1, L17f1x2, L17a2, rfl, (show 0 ≤ x_18.toInt ∧ x_18.toInt ≤ 1024 from by omega), L17a2h0, hP.sub (ws' := [(ob, .inr (7, [.int L17f0x0, .int L17f0x1, .ref obc, .ref ob_3, .int obv4, .ref ob_5, .ref ob_6])), (obc, .inr (1, [.ref obc_0, .int L17f1x1, .int L17f1x2])), (obc_0, .inl (k 0, 8, .inl L17a2)), (tn, .inr (10, [.int tnv0, .int tnv1, .int tnv2, .ref tn_3, .ref tn_4, .ref tn_5, .ref tn_6, .int tnv7, .int tnv8, .ref tn_9, .ref tn_10, .int tnv11, .ref tn_12, .ref tn_13, .ref tn_14, .ref tn_15, .int tnv16, .ref tn_17, .ref tn_18, .ref tnt])), (tn_3, .inl (k 0, 10, .inl tng3)), (tn_4, .inl (k 0, 10, .inl tng4)), (tn_5, .inl (k 0, 10, .inl tng5)), (tn_9, .inl (k 0, 4, .inl tng9)), (tn_10, .inl (k 0, 4, .inl tng10)), (tn_12, .inl (k 0, 6, .inl tng12)), (tn_13, .inl (k 0, 6, .inl tng13)), (tn_14, .inl (k 0, 6, .inl tng14))]) [0, 1, 2, 3, 4, 5, 6, 7, 8, 9, 10, 11] rfl, hD.sub (ws' := [(ob, .inr (7, [.int L17f0x0, .int L17f0x1, .ref obc, .ref ob_3, .int obv4, .ref ob_5, .ref ob_6])), (obc, .inr (1, [.ref obc_0, .int L17f1x1, .int L17f1x2])), (obc_0, .inl (k 0, 8, .inl L17a2)), (tn, .inr (10, [.int tnv0, .int tnv1, .int tnv2, .ref tn_3, .ref tn_4, .ref tn_5, .ref tn_6, .int tnv7, .int tnv8, .ref tn_9, .ref tn_10, .int tnv11, .ref tn_12, .ref tn_13, .ref tn_14, .ref tn_15, .int tnv16, .ref tn_17, .ref tn_18, .ref tnt])), (tn_3, .inl (k 0, 10, .inl tng3)), (tn_4, .inl (k 0, 10, .inl tng4)), (tn_5, .inl (k 0, 10, .inl tng5)), (tn_9, .inl (k 0, 4, .inl tng9)), (tn_10, .inl (k 0, 4, .inl tng10)), (tn_12, .inl (k 0, 6, .inl tng12)), (tn_13, .inl (k 0, 6, .inl tng13)), (tn_14, .inl (k 0, 6, .inl tng14))]) [0, 1, 2, 3, 4, 5, 6, 7, 8, 9, 10, 11] (by decide +kernel) rfl, hS, lv_sub hl [1, 2, 3, 4, 5, 0] rfl⟩
          · skip
            have zh_17 : r_14.toInt = L8l4.toInt := z_eq h_17
            refine lv_aload_n hx hb dX7_turnLanes_50 rfl (lv_at hl 0 rfl) ?_
            refine lv_aload_n hx hb dX7_turnLanes_51 rfl (lv_at hl 1 rfl) ?_
            refine lv_iload hx hb dX7_turnLanes_52 (lv_at hl 5 rfl) ?_
            obtain ⟨hPc, hDc, hFc⟩ := sub3 hP hD hS hA (ws' := [(ob, .inr (7, [.int L17f0x0, .int L17f0x1, .ref obc, .ref ob_3, .int obv4, .ref ob_5, .ref ob_6])), (obc, .inr (1, [.ref obc_0, .int L17f1x1, .int L17f1x2])), (obc_0, .inl (k 0, 8, .inl L17a2)), (tn, .inr (10, [.int tnv0, .int tnv1, .int tnv2, .ref tn_3, .ref tn_4, .ref tn_5, .ref tn_6, .int tnv7, .int tnv8, .ref tn_9, .ref tn_10, .int tnv11, .ref tn_12, .ref tn_13, .ref tn_14, .ref tn_15, .int tnv16, .ref tn_17, .ref tn_18, .ref tnt])), (tn_3, .inl (k 0, 10, .inl tng3)), (tn_4, .inl (k 0, 10, .inl tng4)), (tn_5, .inl (k 0, 10, .inl tng5)), (tn_9, .inl (k 0, 4, .inl tng9)), (tn_10, .inl (k 0, 4, .inl tng10)), (tn_12, .inl (k 0, 6, .inl tng12)), (tn_13, .inl (k 0, 6, .inl tng13)), (tn_14, .inl (k 0, 6, .inl tng14))]) [0, 1, 2, 3, 4, 5, 6, 7, 8, 9, 10, 11] (by decide +kernel) rfl
            refine va_callv (va_runV (C := RX7) (As := [.ref tn, .int L17l5]) (rest := []) ⟨hx, hb, hml, hown, hts⟩ (c_X7_weighTurn l D k ob tn L17l5 L17f0x0 L17f0x1 obc ob_3 obv4 ob_5 ob_6 obc_0 L17f1x1 L17f1x2 L17a2 tnv0 tnv1 tnv2 tn_3 tn_4 tn_5 tn_6 tnv7 tnv8 tn_9 tn_10 tnv11 tn_12 tn_13 tn_14 tn_15 tnv16 tn_17 tn_18 tnt tng3 tng4 tng5 tng9 tng10 tng12 tng13 tng14 H.size (show 0 ≤ obv4.toInt ∧ obv4.toInt ≤ 1024 from by omega) L17a2h0 (show 0 ≤ tnv0.toInt ∧ tnv0.toInt ≤ 8 from by omega) (show 0 ≤ tnv2.toInt ∧ tnv2.toInt ≤ 10 from by omega) (show 0 ≤ tnv8.toInt ∧ tnv8.toInt ≤ 4 from by omega) (show 0 ≤ tnv11.toInt ∧ tnv11.toInt ≤ 6 from by omega) (show 0 ≤ tnv16.toInt ∧ tnv16.toInt ≤ 2 from by omega) hp_tng3_0 hp_tng4_0 hp_tng5_0 hp_tng9_0 hp_tng10_0 hp_tng12_0 hp_tng13_0 hp_tng14_0) (cwV 2 hts (gV tw_4_126 tw_4_128 tw_p_25 tw_1_8 tw_4_129) rfl rfl rfl hdV_X7_weighTurn ⟨Nat.le_of_ble_eq_true rfl, Nat.le_of_ble_eq_true rfl⟩) (cz_V hK hPc hDc hN (ci := 7) (q0 := 0) rfl rfl [.ref tn, .int L17l5]) rfl rfl hl.1 rfl (lv_room (Nat.le_of_ble_eq_true rfl)) dX7_turnLanes_54 ⟨Nat.le_of_ble_eq_true rfl, Nat.le_of_ble_eq_true rfl⟩) hS (fun q _ h => hFc q h) hFc (fun uZ tZ H1 locs ht hvm hw hB hz1 hk1 hS => ?_)
            obtain ⟨o_20, o_21, o_22, o_23, o_24⟩ := uZ
            obtain ⟨hP1, hK1, hD1⟩ := hB
            rw [ht] at hP1
            obtain ⟨hP, hD⟩ := va_join (wr := []) (w1 := [(ob, .inr (7, [.int o_23, .int o_24, .ref obc, .ref ob_3, .int obv4, .ref ob_5, .ref ob_6])), (obc, .inr (1, [.ref obc_0, .int o_20, .int o_21])), (obc_0, .inl (k 0, 8, .inl o_22)), (tn, .inr (10, [.int tnv0, .int tnv1, .int tnv2, .ref tn_3, .ref tn_4, .ref tn_5, .ref tn_6, .int tnv7, .int tnv8, .ref tn_9, .ref tn_10, .int tnv11, .ref tn_12, .ref tn_13, .ref tn_14, .ref tn_15, .int tnv16, .ref tn_17, .ref tn_18, .ref tnt])), (tn_3, .inl (k 0, 10, .inl tng3)), (tn_4, .inl (k 0, 10, .inl tng4)), (tn_5, .inl (k 0, 10, .inl tng5)), (tn_9, .inl (k 0, 4, .inl tng9)), (tn_10, .inl (k 0, 4, .inl tng10)), (tn_12, .inl (k 0, 6, .inl tng12)), (tn_13, .inl (k 0, 6, .inl tng13)), (tn_14, .inl (k 0, 6, .inl tng14))]) hP hD [0, 1, 2, 3, 4, 5, 6, 7, 8, 9, 10, 11] [] rfl rfl (by decide +kernel) (by decide +kernel) hk1 hFc hP1 hD1
            clear hK1 hP1 hD1 hPc hDc hFc
            clear hk1 hz1 ht hvm
            have hP : va_P D vwCl [(ob, .inr (7, [.int o_23, .int o_24, .ref obc, .ref ob_3, .int obv4, .ref ob_5, .ref ob_6])), (obc, .inr (1, [.ref obc_0, .int o_20, .int o_21])), (obc_0, .inl (k 0, 8, .inl o_22)), (tn, .inr (10, [.int tnv0, .int tnv1, .int tnv2, .ref tn_3, .ref tn_4, .ref tn_5, .ref tn_6, .int tnv7, .int tnv8, .ref tn_9, .ref tn_10, .int tnv11, .ref tn_12, .ref tn_13, .ref tn_14, .ref tn_15, .int tnv16, .ref tn_17, .ref tn_18, .ref tnt])), (tn_3, .inl (k 0, 10, .inl tng3)), (tn_4, .inl (k 0, 10, .inl tng4)), (tn_5, .inl (k 0, 10, .inl tng5)), (tn_9, .inl (k 0, 4, .inl tng9)), (tn_10, .inl (k 0, 4, .inl tng10)), (tn_12, .inl (k 0, 6, .inl tng12)), (tn_13, .inl (k 0, 6, .inl tng13)), (tn_14, .inl (k 0, 6, .inl tng14))] H1 := hP
            have hD : va_D A [(ob, .inr (7, [.int o_23, .int o_24, .ref obc, .ref ob_3, .int obv4, .ref ob_5, .ref ob_6])), (obc, .inr (1, [.ref obc_0, .int o_20, .int o_21])), (obc_0, .inl (k 0, 8, .inl o_22)), (tn, .inr (10, [.int tnv0, .int tnv1, .int tnv2, .ref tn_3, .ref tn_4, .ref tn_5, .ref tn_6, .int tnv7, .int tnv8, .ref tn_9, .ref tn_10, .int tnv11, .ref tn_12, .ref tn_13, .ref tn_14, .ref tn_15, .int tnv16, .ref tn_17, .ref tn_18, .ref tnt])), (tn_3, .inl (k 0, 10, .inl tng3)), (tn_4, .inl (k 0, 10, .inl tng4)), (tn_5, .inl (k 0, 10, .inl tng5)), (tn_9, .inl (k 0, 4, .inl tng9)), (tn_10, .inl (k 0, 4, .inl tng10)), (tn_12, .inl (k 0, 6, .inl tng12)), (tn_13, .inl (k 0, 6, .inl tng13)), (tn_14, .inl (k 0, 6, .inl tng14))] := hD
            generalize H1 = H at hP hS ⊢
            have hw_25 : (PR 8 1 0 0 1000000 o_22) := hw
            have hw_26 := hw_25
            clear hw
            obtain ⟨x_27, ex_27⟩ : ∃ y : Int32, y = L17l5 + 1 := ⟨_, rfl⟩
            have zx_27 : x_27.toInt = L17l5.toInt + 1 := by rw [ex_27]; exact z_add rfl rfl (by omega) (by omega)
            refine lv_iinc (v := x_27) (lv' := [(5, .int x_27), (0, .ref ob), (1, .ref tn), (2, .int p1), (3, .int p2), (4, .int L8l4)]) hx hb dX7_turnLanes_57 hl (k := 5) rfl (by rw [ex_27]; rfl) (by decide) rfl (fun ls hl => ?_)
            refine lv_goto (tgt := 17) hx hb dX7_turnLanes_60 (by decide) ?_
            exact ih_4 _ _ _ _ (by omega) ⟨x_27, o_23, o_24, o_20, o_21, o_22, rfl, (show 0 ≤ x_27.toInt ∧ x_27.toInt ≤ 1024 from by omega), hw_26, hP.sub (ws' := [(ob, .inr (7, [.int o_23, .int o_24, .ref obc, .ref ob_3, .int obv4, .ref ob_5, .ref ob_6])), (obc, .inr (1, [.ref obc_0, .int o_20, .int o_21])), (obc_0, .inl (k 0, 8, .inl o_22)), (tn, .inr (10, [.int tnv0, .int tnv1, .int tnv2, .ref tn_3, .ref tn_4, .ref tn_5, .ref tn_6, .int tnv7, .int tnv8, .ref tn_9, .ref tn_10, .int tnv11, .ref tn_12, .ref tn_13, .ref tn_14, .ref tn_15, .int tnv16, .ref tn_17, .ref tn_18, .ref tnt])), (tn_3, .inl (k 0, 10, .inl tng3)), (tn_4, .inl (k 0, 10, .inl tng4)), (tn_5, .inl (k 0, 10, .inl tng5)), (tn_9, .inl (k 0, 4, .inl tng9)), (tn_10, .inl (k 0, 4, .inl tng10)), (tn_12, .inl (k 0, 6, .inl tng12)), (tn_13, .inl (k 0, 6, .inl tng13)), (tn_14, .inl (k 0, 6, .inl tng14))]) [0, 1, 2, 3, 4, 5, 6, 7, 8, 9, 10, 11] rfl, hD.sub (ws' := [(ob, .inr (7, [.int o_23, .int o_24, .ref obc, .ref ob_3, .int obv4, .ref ob_5, .ref ob_6])), (obc, .inr (1, [.ref obc_0, .int o_20, .int o_21])), (obc_0, .inl (k 0, 8, .inl o_22)), (tn, .inr (10, [.int tnv0, .int tnv1, .int tnv2, .ref tn_3, .ref tn_4, .ref tn_5, .ref tn_6, .int tnv7, .int tnv8, .ref tn_9, .ref tn_10, .int tnv11, .ref tn_12, .ref tn_13, .ref tn_14, .ref tn_15, .int tnv16, .ref tn_17, .ref tn_18, .ref tnt])), (tn_3, .inl (k 0, 10, .inl tng3)), (tn_4, .inl (k 0, 10, .inl tng4)), (tn_5, .inl (k 0, 10, .inl tng5)), (tn_9, .inl (k 0, 4, .inl tng9)), (tn_10, .inl (k 0, 4, .inl tng10)), (tn_12, .inl (k 0, 6, .inl tng12)), (tn_13, .inl (k 0, 6, .inl tng13)), (tn_14, .inl (k 0, 6, .inl tng14))]) [0, 1, 2, 3, 4, 5, 6, 7, 8, 9, 10, 11] (by decide +kernel) rfl, hS, lv_sub hl [1, 2, 3, 4, 5, 0] rfl⟩
set_option maxHeartbeats 4000000 in
set_option maxRecDepth 100000 in
theorem c_X7_cutsKnownWays (l : Launch) (D : va_G) (k : Nat → ClassId) (ob : Nat) (p0 : Int32) (obv0 : Int32) (obv1 : Int32) (obc : Nat) (ob_3 : Nat) (obv4 : Int32) (ob_5 : Nat) (ob_6 : Nat) (obg3 : Nat → Int32) (sz : Nat) (h_obv4 : 0 ≤ obv4.toInt ∧ obv4.toInt ≤ 1024) : Met l yX7_cutsKnownWays (ww yX7_cutsKnownWays cX7_cutsKnownWays 3 (some .boolean)) ({ frames := 0, cells := 0, slots := 0, locals := 0 }) (Pre0 D k [(ob, .inr (7, [.int obv0, .int obv1, .ref obc, .ref ob_3, .int obv4, .ref ob_5, .ref ob_6])), (ob_3, .inl (k 0, 1024, .inl obg3))] sz [.ref ob, .int p0]) (va_Qi (fun (r : Int32) (_ : Unit) => (0 ≤ r.toInt ∧ r.toInt ≤ 1)) (fun (_ : Unit) tZ => Bw D k (va_A [(ob, .inr (7, [.int obv0, .int obv1, .ref obc, .ref ob_3, .int obv4, .ref ob_5, .ref ob_6])), (ob_3, .inl (k 0, 1024, .inl obg3))] sz) [(ob, .inr (7, [.int obv0, .int obv1, .ref obc, .ref ob_3, .int obv4, .ref ob_5, .ref ob_6])), (ob_3, .inl (k 0, 1024, .inl obg3))] tZ) (va_A [(ob, .inr (7, [.int obv0, .int obv1, .ref obc, .ref ob_3, .int obv4, .ref ob_5, .ref ob_6])), (ob_3, .inl (k 0, 1024, .inl obg3))] sz)) 0 0 (va_A [(ob, .inr (7, [.int obv0, .int obv1, .ref obc, .ref ob_3, .int obv4, .ref ob_5, .ref ob_6])), (ob_3, .inl (k 0, 1024, .inl obg3))] sz) := by
  refine Met.ofW (cc := cX7_cutsKnownWays) (maxL := 3) (ret := (some .boolean)) (by decide +kernel) rfl ?_
  intro p e s m args below meth c s₁ B hml hv
  obtain ⟨rfl, hsz, hP, hK, hD0, hN⟩ := hv
  have hx := B.exec
  have hb := B.bytes
  have hr := B.returns
  have hts : ∀ w ∈ TT, w.before _ s = true := fun w h => atoms_spec (ws := ww yX7_cutsKnownWays cX7_cutsKnownWays 3 (some .boolean)) B.pre w (List.mem_cons_of_mem _ h)
  have hown : s.vm.findClass RX7 = some m.cls := findClass_of_methodNamed B.named
  have hlocks := B.notSynchronized
  subst hsz
  have hD := hD0.self (sz := s.heap.size)
  generalize hAe : va_A [(ob, .inr (7, [.int obv0, .int obv1, .ref obc, .ref ob_3, .int obv4, .ref ob_5, .ref ob_6])), (ob_3, .inl (k 0, 1024, .inl obg3))] s.heap.size = A at hD ⊢
  have hA : ∀ q : Nat, s.heap.size ≤ q → A q := fun q h => by rw [← hAe]; exact Or.inr h
  have hS : va_S A s.heap s.heap [] := va_S.rf
  have hl := lv_entry ([.ref ob, .int p0]) (n := 3) (Nat.le_of_ble_eq_true rfl)
  rw [lg_entry_eq]
  generalize (lg_sl ([.ref ob, .int p0]) ++ List.replicate (3 - (lg_sl ([.ref ob, .int p0])).length) Slot.unset).toArray = ls at hl ⊢
  have hl : lv_has ls 3 [(0, .ref ob), (1, .int p0)] := hl
  refine lv_iconst (v := 0) hx hb dX7_cutsKnownWays_0 (by decide) ?_
  refine lv_istore_n (lv' := [(2, .int 0), (0, .ref ob), (1, .int p0)]) hx hb dX7_cutsKnownWays_1 rfl hl (by decide) rfl (fun ls hl => ?_)
  refine loop_r (Wg := fun H locs ls => W p l e _ s m _ below meth c H locs _ _ _ (F0 m 2 ls [])) (fun n9 H locs ls => ∃ (L2l2 : Int32), n9 = (1024 - L2l2.toInt).toNat ∧ (0 ≤ L2l2.toInt ∧ L2l2.toInt ≤ 1024) ∧ va_P D vwCl [(ob, .inr (7, [.int obv0, .int obv1, .ref obc, .ref ob_3, .int obv4, .ref ob_5, .ref ob_6])), (ob_3, .inl (k 0, 1024, .inl obg3))] H ∧ va_D A [(ob, .inr (7, [.int obv0, .int obv1, .ref obc, .ref ob_3, .int obv4, .ref ob_5, .ref ob_6])), (ob_3, .inl (k 0, 1024, .inl obg3))] ∧ va_S A s.heap H locs ∧ lv_has ls 3 [(0, .ref ob), (1, .int p0), (2, .int L2l2)]) (fun n9 H locs ls hI ih_1 => ?_) _ _ _ _ ⟨0, rfl, (show 0 ≤ 0 ∧ 0 ≤ 1024 from by omega), hP.sub (ws' := [(ob, .inr (7, [.int obv0, .int obv1, .ref obc, .ref ob_3, .int obv4, .ref ob_5, .ref ob_6])), (ob_3, .inl (k 0, 1024, .inl obg3))]) [0, 1] rfl, hD.sub (ws' := [(ob, .inr (7, [.int obv0, .int obv1, .ref obc, .ref ob_3, .int obv4, .ref ob_5, .ref ob_6])), (ob_3, .inl (k 0, 1024, .inl obg3))]) [0, 1] (by decide +kernel) rfl, hS, lv_sub hl [1, 2, 0] rfl⟩
  clear hP hD hS hl
  obtain ⟨L2l2, en_2, zL2l2, hP, hD, hS, hl⟩ := hI
  refine lv_iload_n hx hb dX7_cutsKnownWays_2 rfl (lv_at hl 2 rfl) ?_
  refine lv_aload_n hx hb dX7_cutsKnownWays_3 rfl (lv_at hl 0 rfl) ?_
  refine va_get (D := D) (ci := 7) (v := .int obv4) (C := RX7) (T := TX7) (N := 7) hx hb hts iT_X7 hown hK hP 0 rfl rfl 4 (by decide) (hts _ tw_2_70) (fun _ h9 => h9) rfl dX7_cutsKnownWays_4 ?_
  refine lv_icmp_ge (tgt := 29) hx hb dX7_cutsKnownWays_7 (by decide) (fun h_3 => ?_) (fun h_3 => ?_)
  · skip
    have zh_3 : obv4.toInt ≤ L2l2.toInt := z_le h_3
    refine lv_iconst (v := 1) hx hb dX7_cutsKnownWays_29 (by decide) ?_
    obtain ⟨hP9, hD9⟩ := sub2 hP hD (ws' := [(ob, .inr (7, [.int obv0, .int obv1, .ref obc, .ref ob_3, .int obv4, .ref ob_5, .ref ob_6])), (ob_3, .inl (k 0, 1024, .inl obg3))]) [0, 1] (by decide +kernel) rfl
    exact W.zret (v := 1) hx hb hr (by decide) (fun tZ ht hW => ⟨⟨1, (), rfl, (show 0 ≤ 1 ∧ 1 ≤ 1 from by omega), by rw [ht]; exact hP9, va_K.moved hW.alike hK, hD9⟩, hS.F ht⟩) hS.2.2 dX7_cutsKnownWays_30
  · skip
    have zh_3 : L2l2.toInt < obv4.toInt := z_nle h_3
    refine lv_aload_n hx hb dX7_cutsKnownWays_10 rfl (lv_at hl 0 rfl) ?_
    refine va_get (D := D) (ci := 7) (v := .ref ob_3) (C := RX7) (T := TX7) (N := 7) hx hb hts iT_X7 hown hK hP 0 rfl rfl 3 (by decide) (hts _ tw_2_69) (fun _ h9 => h9) rfl dX7_cutsKnownWays_11 ?_
    refine lv_iload_n hx hb dX7_cutsKnownWays_14 rfl (lv_at hl 2 rfl) ?_
    refine va_iald hx hb hK hP 1 0 rfl rfl (z_in (by omega) (by omega)) dX7_cutsKnownWays_15 ?_
    refine lv_topi (fun x_4 ex_4 => ?_)
    refine lv_iload_n hx hb dX7_cutsKnownWays_16 rfl (lv_at hl 1 rfl) ?_
    refine lv_iand hx hb dX7_cutsKnownWays_17 ?_
    refine lv_topi (fun x_5 ex_5 => ?_)
    have zrx_4 := z_rng x_4
    have zrp0 := z_rng p0
    refine lv_if_ne (tgt := 23) hx hb dX7_cutsKnownWays_18 (by decide) (fun h_6 => ?_) (fun h_6 => ?_)
    · skip
      have zh_6 : ¬ x_5.toInt = 0 := z_ne h_6
      obtain ⟨x_7, ex_7⟩ : ∃ y : Int32, y = L2l2 + 1 := ⟨_, rfl⟩
      have zx_7 : x_7.toInt = L2l2.toInt + 1 := by rw [ex_7]; exact z_add rfl rfl (by omega) (by omega)
      refine lv_iinc (v := x_7) (lv' := [(2, .int x_7), (0, .ref ob), (1, .int p0)]) hx hb dX7_cutsKnownWays_23 hl (k := 2) rfl (by rw [ex_7]; rfl) (by decide) rfl (fun ls hl => ?_)
      refine lv_goto (tgt := 2) hx hb dX7_cutsKnownWays_26 (by decide) ?_
      exact ih_1 _ _ _ _ (by omega) ⟨x_7, rfl, (show 0 ≤ x_7.toInt ∧ x_7.toInt ≤ 1024 from by omega), hP.sub (ws' := [(ob, .inr (7, [.int obv0, .int obv1, .ref obc, .ref ob_3, .int obv4, .ref ob_5, .ref ob_6])), (ob_3, .inl (k 0, 1024, .inl obg3))]) [0, 1] rfl, hD.sub (ws' := [(ob, .inr (7, [.int obv0, .int obv1, .ref obc, .ref ob_3, .int obv4, .ref ob_5, .ref ob_6])), (ob_3, .inl (k 0, 1024, .inl obg3))]) [0, 1] (by decide +kernel) rfl, hS, lv_sub hl [1, 2, 0] rfl⟩
    · skip
      have zh_6 : x_5.toInt = 0 := z_eq h_6
      refine lv_iconst (v := 0) hx hb dX7_cutsKnownWays_21 (by decide) ?_
      obtain ⟨hP9, hD9⟩ := sub2 hP hD (ws' := [(ob, .inr (7, [.int obv0, .int obv1, .ref obc, .ref ob_3, .int obv4, .ref ob_5, .ref ob_6])), (ob_3, .inl (k 0, 1024, .inl obg3))]) [0, 1] (by decide +kernel) rfl
      exact W.zret (v := 0) hx hb hr (by decide) (fun tZ ht hW => ⟨⟨0, (), rfl, (show 0 ≤ 0 ∧ 0 ≤ 1 from by omega), by rw [ht]; exact hP9, va_K.moved hW.alike hK, hD9⟩, hS.F ht⟩) hS.2.2 dX7_cutsKnownWays_22
set_option maxHeartbeats 4000000 in
set_option maxRecDepth 100000 in
theorem c_X7_cutsAll (l : Launch) (D : va_G) (k : Nat → ClassId) (ob : Nat) (tn : Nat) (p1 : Int32) (p2 : Int32) (p3 : Int32) (obv0 : Int32) (obv1 : Int32) (obc : Nat) (ob_3 : Nat) (obv4 : Int32) (ob_5 : Nat) (ob_6 : Nat) (obc_0 : Nat) (obcv1 : Int32) (obcv2 : Int32) (obcg0 : Nat → Int32) (obg3 : Nat → Int32) (tnv0 : Int32) (tnv1 : Int32) (tnv2 : Int32) (tn_3 : Nat) (tn_4 : Nat) (tn_5 : Nat) (tn_6 : Nat) (tnv7 : Int32) (tnv8 : Int32) (tn_9 : Nat) (tn_10 : Nat) (tnv11 : Int32) (tn_12 : Nat) (tn_13 : Nat) (tn_14 : Nat) (tn_15 : Nat) (tnv16 : Int32) (tn_17 : Nat) (tn_18 : Nat) (tnt : Nat) (tng3 : Nat → Int32) (tng4 : Nat → Int32) (tng5 : Nat → Int32) (tng9 : Nat → Int32) (tng10 : Nat → Int32) (sz : Nat) (h_p2 : 0 ≤ p2.toInt ∧ p2.toInt ≤ 7) (h_obv4 : 0 ≤ obv4.toInt ∧ obv4.toInt ≤ 1024) (hp_obcg0_0 : PR 8 1 0 0 1000000 obcg0) (h_tnv0 : 0 ≤ tnv0.toInt ∧ tnv0.toInt ≤ 8) (h_tnv2 : 0 ≤ tnv2.toInt ∧ tnv2.toInt ≤ 10) (h_tnv8 : 0 ≤ tnv8.toInt ∧ tnv8.toInt ≤ 4) (h_tnv11 : 0 ≤ tnv11.toInt ∧ tnv11.toInt ≤ 6) (h_tnv16 : 0 ≤ tnv16.toInt ∧ tnv16.toInt ≤ 2) (hp_tng3_0 : PR 10 1 0 0 7 tng3) (hp_tng4_0 : PR 10 1 0 0 7 tng4) (hp_tng5_0 : PR 10 1 0 0 60 tng5) (hp_tng9_0 : PR 4 1 0 0 7 tng9) (hp_tng10_0 : PR 4 1 0 0 99 tng10) : Met l yX7_cutsAll (ww yX7_cutsAll cX7_cutsAll 5 (some .boolean)) ({ frames := 4, cells := 0, slots := 0, locals := 100 }) (Pre0 D k [(ob, .inr (7, [.int obv0, .int obv1, .ref obc, .ref ob_3, .int obv4, .ref ob_5, .ref ob_6])), (obc, .inr (1, [.ref obc_0, .int obcv1, .int obcv2])), (obc_0, .inl (k 0, 8, .inl obcg0)), (ob_3, .inl (k 0, 1024, .inl obg3)), (tn, .inr (10, [.int tnv0, .int tnv1, .int tnv2, .ref tn_3, .ref tn_4, .ref tn_5, .ref tn_6, .int tnv7, .int tnv8, .ref tn_9, .ref tn_10, .int tnv11, .ref tn_12, .ref tn_13, .ref tn_14, .ref tn_15, .int tnv16, .ref tn_17, .ref tn_18, .ref tnt])), (tn_3, .inl (k 0, 10, .inl tng3)), (tn_4, .inl (k 0, 10, .inl tng4)), (tn_5, .inl (k 0, 10, .inl tng5)), (tn_9, .inl (k 0, 4, .inl tng9)), (tn_10, .inl (k 0, 4, .inl tng10))] sz [.ref ob, .ref tn, .int p1, .int p2, .int p3]) (va_Qi (fun (r : Int32) (u : Int32 × Int32 × (Nat → Int32) × Int32 × (Nat → Int32)) => match u with | (obcv1z, obcv2z, obcg0z, obv4z, obg3z) => (0 ≤ r.toInt ∧ r.toInt ≤ 1) ∧ (PR 8 1 0 0 1000000 obcg0z) ∧ (0 ≤ obv4z.toInt ∧ obv4z.toInt ≤ 1024)) (fun (u : Int32 × Int32 × (Nat → Int32) × Int32 × (Nat → Int32)) tZ => match u with | (obcv1z, obcv2z, obcg0z, obv4z, obg3z) => Bw D k (va_A [(ob, .inr (7, [.int obv0, .int obv1, .ref obc, .ref ob_3, .int obv4, .ref ob_5, .ref ob_6])), (obc, .inr (1, [.ref obc_0, .int obcv1, .int obcv2])), (obc_0, .inl (k 0, 8, .inl obcg0)), (ob_3, .inl (k 0, 1024, .inl obg3)), (tn, .inr (10, [.int tnv0, .int tnv1, .int tnv2, .ref tn_3, .ref tn_4, .ref tn_5, .ref tn_6, .int tnv7, .int tnv8, .ref tn_9, .ref tn_10, .int tnv11, .ref tn_12, .ref tn_13, .ref tn_14, .ref tn_15, .int tnv16, .ref tn_17, .ref tn_18, .ref tnt])), (tn_3, .inl (k 0, 10, .inl tng3)), (tn_4, .inl (k 0, 10, .inl tng4)), (tn_5, .inl (k 0, 10, .inl tng5)), (tn_9, .inl (k 0, 4, .inl tng9)), (tn_10, .inl (k 0, 4, .inl tng10))] sz) [(ob, .inr (7, [.int obv0, .int obv1, .ref obc, .ref ob_3, .int obv4z, .ref ob_5, .ref ob_6])), (obc, .inr (1, [.ref obc_0, .int obcv1z, .int obcv2z])), (obc_0, .inl (k 0, 8, .inl obcg0z)), (ob_3, .inl (k 0, 1024, .inl obg3z)), (tn, .inr (10, [.int tnv0, .int tnv1, .int tnv2, .ref tn_3, .ref tn_4, .ref tn_5, .ref tn_6, .int tnv7, .int tnv8, .ref tn_9, .ref tn_10, .int tnv11, .ref tn_12, .ref tn_13, .ref tn_14, .ref tn_15, .int tnv16, .ref tn_17, .ref tn_18, .ref tnt])), (tn_3, .inl (k 0, 10, .inl tng3)), (tn_4, .inl (k 0, 10, .inl tng4)), (tn_5, .inl (k 0, 10, .inl tng5)), (tn_9, .inl (k 0, 4, .inl tng9)), (tn_10, .inl (k 0, 4, .inl tng10))] tZ) (va_A [(ob, .inr (7, [.int obv0, .int obv1, .ref obc, .ref ob_3, .int obv4, .ref ob_5, .ref ob_6])), (obc, .inr (1, [.ref obc_0, .int obcv1, .int obcv2])), (obc_0, .inl (k 0, 8, .inl obcg0)), (ob_3, .inl (k 0, 1024, .inl obg3)), (tn, .inr (10, [.int tnv0, .int tnv1, .int tnv2, .ref tn_3, .ref tn_4, .ref tn_5, .ref tn_6, .int tnv7, .int tnv8, .ref tn_9, .ref tn_10, .int tnv11, .ref tn_12, .ref tn_13, .ref tn_14, .ref tn_15, .int tnv16, .ref tn_17, .ref tn_18, .ref tnt])), (tn_3, .inl (k 0, 10, .inl tng3)), (tn_4, .inl (k 0, 10, .inl tng4)), (tn_5, .inl (k 0, 10, .inl tng5)), (tn_9, .inl (k 0, 4, .inl tng9)), (tn_10, .inl (k 0, 4, .inl tng10))] sz)) 0 0 (va_A [(ob, .inr (7, [.int obv0, .int obv1, .ref obc, .ref ob_3, .int obv4, .ref ob_5, .ref ob_6])), (obc, .inr (1, [.ref obc_0, .int obcv1, .int obcv2])), (obc_0, .inl (k 0, 8, .inl obcg0)), (ob_3, .inl (k 0, 1024, .inl obg3)), (tn, .inr (10, [.int tnv0, .int tnv1, .int tnv2, .ref tn_3, .ref tn_4, .ref tn_5, .ref tn_6, .int tnv7, .int tnv8, .ref tn_9, .ref tn_10, .int tnv11, .ref tn_12, .ref tn_13, .ref tn_14, .ref tn_15, .int tnv16, .ref tn_17, .ref tn_18, .ref tnt])), (tn_3, .inl (k 0, 10, .inl tng3)), (tn_4, .inl (k 0, 10, .inl tng4)), (tn_5, .inl (k 0, 10, .inl tng5)), (tn_9, .inl (k 0, 4, .inl tng9)), (tn_10, .inl (k 0, 4, .inl tng10))] sz) := by
  refine Met.ofW (cc := cX7_cutsAll) (maxL := 5) (ret := (some .boolean)) (by decide +kernel) rfl ?_
  intro p e s m args below meth c s₁ B hml hv
  obtain ⟨rfl, hsz, hP, hK, hD0, hN⟩ := hv
  have hx := B.exec
  have hb := B.bytes
  have hr := B.returns
  have hts : ∀ w ∈ TT, w.before _ s = true := fun w h => atoms_spec (ws := ww yX7_cutsAll cX7_cutsAll 5 (some .boolean)) B.pre w (List.mem_cons_of_mem _ h)
  have hown : s.vm.findClass RX7 = some m.cls := findClass_of_methodNamed B.named
  have hlocks := B.notSynchronized
  subst hsz
  have hD := hD0.self (sz := s.heap.size)
  generalize hAe : va_A [(ob, .inr (7, [.int obv0, .int obv1, .ref obc, .ref ob_3, .int obv4, .ref ob_5, .ref ob_6])), (obc, .inr (1, [.ref obc_0, .int obcv1, .int obcv2])), (obc_0, .inl (k 0, 8, .inl obcg0)), (ob_3, .inl (k 0, 1024, .inl obg3)), (tn, .inr (10, [.int tnv0, .int tnv1, .int tnv2, .ref tn_3, .ref tn_4, .ref tn_5, .ref tn_6, .int tnv7, .int tnv8, .ref tn_9, .ref tn_10, .int tnv11, .ref tn_12, .ref tn_13, .ref tn_14, .ref tn_15, .int tnv16, .ref tn_17, .ref tn_18, .ref tnt])), (tn_3, .inl (k 0, 10, .inl tng3)), (tn_4, .inl (k 0, 10, .inl tng4)), (tn_5, .inl (k 0, 10, .inl tng5)), (tn_9, .inl (k 0, 4, .inl tng9)), (tn_10, .inl (k 0, 4, .inl tng10))] s.heap.size = A at hD ⊢
  have hA : ∀ q : Nat, s.heap.size ≤ q → A q := fun q h => by rw [← hAe]; exact Or.inr h
  have hS : va_S A s.heap s.heap [] := va_S.rf
  have hl := lv_entry ([.ref ob, .ref tn, .int p1, .int p2, .int p3]) (n := 5) (Nat.le_of_ble_eq_true rfl)
  rw [lg_entry_eq]
  generalize (lg_sl ([.ref ob, .ref tn, .int p1, .int p2, .int p3]) ++ List.replicate (5 - (lg_sl ([.ref ob, .ref tn, .int p1, .int p2, .int p3])).length) Slot.unset).toArray = ls at hl ⊢
  have hl : lv_has ls 5 [(0, .ref ob), (1, .ref tn), (2, .int p1), (3, .int p2), (4, .int p3)] := hl
  refine lv_aload_n hx hb dX7_cutsAll_0 rfl (lv_at hl 0 rfl) ?_
  refine va_get (D := D) (ci := 7) (v := .ref obc) (C := RX7) (T := TX7) (N := 7) hx hb hts iT_X7 hown hK hP 0 rfl rfl 2 (by decide) (hts _ tw_2_68) (fun _ h9 => h9) rfl dX7_cutsAll_1 ?_
  refine lv_aload_n hx hb dX7_cutsAll_4 rfl (lv_at hl 1 rfl) ?_
  refine lv_aload_n hx hb dX7_cutsAll_5 rfl (lv_at hl 1 rfl) ?_
  obtain ⟨hPc, hDc, hFc⟩ := sub3 hP hD hS hA (ws' := [(tn, .inr (10, [.int tnv0, .int tnv1, .int tnv2, .ref tn_3, .ref tn_4, .ref tn_5, .ref tn_6, .int tnv7, .int tnv8, .ref tn_9, .ref tn_10, .int tnv11, .ref tn_12, .ref tn_13, .ref tn_14, .ref tn_15, .int tnv16, .ref tn_17, .ref tn_18, .ref tnt]))]) [4] (by decide +kernel) rfl
  refine va_calli (va_runV (C := RX10) (As := []) (rest := [.ref tn, .ref obc]) ⟨hx, hb, hml, hown, hts⟩ (c_X10_openLanes l D k tn tnv0 tnv1 tnv2 tn_3 tn_4 tn_5 tn_6 tnv7 tnv8 tn_9 tn_10 tnv11 tn_12 tn_13 tn_14 tn_15 tnv16 tn_17 tn_18 tnt s.heap.size (show 0 ≤ tnv0.toInt ∧ tnv0.toInt ≤ 8 from by omega) (show 0 ≤ tnv2.toInt ∧ tnv2.toInt ≤ 10 from by omega) (show 0 ≤ tnv8.toInt ∧ tnv8.toInt ≤ 4 from by omega) (show 0 ≤ tnv11.toInt ∧ tnv11.toInt ≤ 6 from by omega) (show 0 ≤ tnv16.toInt ∧ tnv16.toInt ≤ 2 from by omega)) (cwV 0 hts (gV tw_4_130 tw_3_180 tw_3_181 tw_1_3 tw_3_182) rfl rfl rfl hdV_X10_openLanes ⟨Nat.le_of_ble_eq_true rfl, Nat.le_of_ble_eq_true rfl⟩) (cz_V hK hPc hDc hN (ci := 10) (q0 := 0) rfl rfl []) rfl rfl hl.1 rfl (lv_room (Nat.le_of_ble_eq_true rfl)) dX7_cutsAll_6 ⟨Nat.le_of_ble_eq_true rfl, Nat.le_of_ble_eq_true rfl⟩) hS (fun q _ h => hFc q h) hFc (fun r_1 uZ tZ H1 locs ht hvm hw hB hz1 hk1 hS => ?_)
  obtain ⟨hP1, hK1, hD1⟩ := hB
  rw [ht] at hP1
  obtain ⟨hP, hD⟩ := va_join (wr := [(ob, .inr (7, [.int obv0, .int obv1, .ref obc, .ref ob_3, .int obv4, .ref ob_5, .ref ob_6])), (obc, .inr (1, [.ref obc_0, .int obcv1, .int obcv2])), (obc_0, .inl (k 0, 8, .inl obcg0)), (ob_3, .inl (k 0, 1024, .inl obg3)), (tn_3, .inl (k 0, 10, .inl tng3)), (tn_4, .inl (k 0, 10, .inl tng4)), (tn_5, .inl (k 0, 10, .inl tng5)), (tn_9, .inl (k 0, 4, .inl tng9)), (tn_10, .inl (k 0, 4, .inl tng10))]) (w1 := [(tn, .inr (10, [.int tnv0, .int tnv1, .int tnv2, .ref tn_3, .ref tn_4, .ref tn_5, .ref tn_6, .int tnv7, .int tnv8, .ref tn_9, .ref tn_10, .int tnv11, .ref tn_12, .ref tn_13, .ref tn_14, .ref tn_15, .int tnv16, .ref tn_17, .ref tn_18, .ref tnt]))]) hP hD [4] [0, 1, 2, 3, 5, 6, 7, 8, 9] rfl rfl (by decide +kernel) (by decide +kernel) hk1 hFc hP1 hD1
  clear hK1 hP1 hD1 hPc hDc hFc
  clear hk1 hz1 ht hvm
  have hP : va_P D vwCl [(ob, .inr (7, [.int obv0, .int obv1, .ref obc, .ref ob_3, .int obv4, .ref ob_5, .ref ob_6])), (obc, .inr (1, [.ref obc_0, .int obcv1, .int obcv2])), (obc_0, .inl (k 0, 8, .inl obcg0)), (ob_3, .inl (k 0, 1024, .inl obg3)), (tn_3, .inl (k 0, 10, .inl tng3)), (tn_4, .inl (k 0, 10, .inl tng4)), (tn_5, .inl (k 0, 10, .inl tng5)), (tn_9, .inl (k 0, 4, .inl tng9)), (tn_10, .inl (k 0, 4, .inl tng10)), (tn, .inr (10, [.int tnv0, .int tnv1, .int tnv2, .ref tn_3, .ref tn_4, .ref tn_5, .ref tn_6, .int tnv7, .int tnv8, .ref tn_9, .ref tn_10, .int tnv11, .ref tn_12, .ref tn_13, .ref tn_14, .ref tn_15, .int tnv16, .ref tn_17, .ref tn_18, .ref tnt]))] H1 := hP
  have hD : va_D A [(ob, .inr (7, [.int obv0, .int obv1, .ref obc, .ref ob_3, .int obv4, .ref ob_5, .ref ob_6])), (obc, .inr (1, [.ref obc_0, .int obcv1, .int obcv2])), (obc_0, .inl (k 0, 8, .inl obcg0)), (ob_3, .inl (k 0, 1024, .inl obg3)), (tn_3, .inl (k 0, 10, .inl tng3)), (tn_4, .inl (k 0, 10, .inl tng4)), (tn_5, .inl (k 0, 10, .inl tng5)), (tn_9, .inl (k 0, 4, .inl tng9)), (tn_10, .inl (k 0, 4, .inl tng10)), (tn, .inr (10, [.int tnv0, .int tnv1, .int tnv2, .ref tn_3, .ref tn_4, .ref tn_5, .ref tn_6, .int tnv7, .int tnv8, .ref tn_9, .ref tn_10, .int tnv11, .ref tn_12, .ref tn_13, .ref tn_14, .ref tn_15, .int tnv16, .ref tn_17, .ref tn_18, .ref tnt]))] := hD
  generalize H1 = H at hP hS ⊢
  have hw_2 : (0 ≤ r_1.toInt ∧ r_1.toInt ≤ 1023) := hw
  have hw_3 := hw_2
  clear hw
  refine lv_iload_n hx hb dX7_cutsAll_9 rfl (lv_at hl 2 rfl) ?_
  refine lv_iconst (v := (-1)) hx hb dX7_cutsAll_10 (by decide) ?_
  refine lv_ixor hx hb dX7_cutsAll_11 ?_
  refine lv_topi (fun x_4 ex_4 => ?_)
  have zrp1 := z_rng p1
  refine lv_iand hx hb dX7_cutsAll_12 ?_
  refine lv_topi (fun x_5 ex_5 => ?_)
  have zrx_4 := z_rng x_4
  have zx_5 : 0 ≤ x_5.toInt ∧ x_5.toInt ≤ r_1.toInt := by rw [ex_5]; exact z_andL (by omega)
  refine lv_iconst (v := 0) hx hb dX7_cutsAll_13 (by decide) ?_
  obtain ⟨hPc, hDc, hFc⟩ := sub3 hP hD hS hA (ws' := [(obc, .inr (1, [.ref obc_0, .int obcv1, .int obcv2])), (obc_0, .inl (k 0, 8, .inl obcg0)), (tn, .inr (10, [.int tnv0, .int tnv1, .int tnv2, .ref tn_3, .ref tn_4, .ref tn_5, .ref tn_6, .int tnv7, .int tnv8, .ref tn_9, .ref tn_10, .int tnv11, .ref tn_12, .ref tn_13, .ref tn_14, .ref tn_15, .int tnv16, .ref tn_17, .ref tn_18, .ref tnt])), (tn_3, .inl (k 0, 10, .inl tng3)), (tn_4, .inl (k 0, 10, .inl tng4)), (tn_5, .inl (k 0, 10, .inl tng5)), (tn_9, .inl (k 0, 4, .inl tng9)), (tn_10, .inl (k 0, 4, .inl tng10))]) [1, 2, 9, 4, 5, 6, 7, 8] (by decide +kernel) rfl
  refine va_callv (va_runV (C := RX1) (As := [.ref tn, .int x_5, .int 0]) (rest := []) ⟨hx, hb, hml, hown, hts⟩ (c_X1_fall l D k obc tn x_5 0 obc_0 obcv1 obcv2 obcg0 tnv0 tnv1 tnv2 tn_3 tn_4 tn_5 tn_6 tnv7 tnv8 tn_9 tn_10 tnv11 tn_12 tn_13 tn_14 tn_15 tnv16 tn_17 tn_18 tnt tng3 tng4 tng5 tng9 tng10 H.size hp_obcg0_0 (show 0 ≤ tnv0.toInt ∧ tnv0.toInt ≤ 8 from by omega) (show 0 ≤ tnv2.toInt ∧ tnv2.toInt ≤ 10 from by omega) (show 0 ≤ tnv8.toInt ∧ tnv8.toInt ≤ 4 from by omega) (show 0 ≤ tnv11.toInt ∧ tnv11.toInt ≤ 6 from by omega) (show 0 ≤ tnv16.toInt ∧ tnv16.toInt ≤ 2 from by omega) hp_tng3_0 hp_tng4_0 hp_tng5_0 hp_tng9_0 hp_tng10_0) (cwV 3 hts (gV tw_4_131 tw_3_184 tw_3_185 tw_1_6 tw_3_186) rfl rfl rfl hdV_X1_fall ⟨Nat.le_of_ble_eq_true rfl, Nat.le_of_ble_eq_true rfl⟩) (cz_V hK hPc hDc hN (ci := 1) (q0 := 0) rfl rfl [.ref tn, .int x_5, .int 0]) rfl rfl hl.1 rfl (lv_room (Nat.le_of_ble_eq_true rfl)) dX7_cutsAll_14 ⟨Nat.le_of_ble_eq_true rfl, Nat.le_of_ble_eq_true rfl⟩) hS (fun q _ h => hFc q h) hFc (fun uZ tZ H1 locs ht hvm hw hB hz1 hk1 hS => ?_)
  obtain ⟨o_7, o_8, o_9⟩ := uZ
  obtain ⟨hP1, hK1, hD1⟩ := hB
  rw [ht] at hP1
  obtain ⟨hP, hD⟩ := va_join (wr := [(ob, .inr (7, [.int obv0, .int obv1, .ref obc, .ref ob_3, .int obv4, .ref ob_5, .ref ob_6])), (ob_3, .inl (k 0, 1024, .inl obg3))]) (w1 := [(obc, .inr (1, [.ref obc_0, .int o_7, .int o_8])), (obc_0, .inl (k 0, 8, .inl o_9)), (tn, .inr (10, [.int tnv0, .int tnv1, .int tnv2, .ref tn_3, .ref tn_4, .ref tn_5, .ref tn_6, .int tnv7, .int tnv8, .ref tn_9, .ref tn_10, .int tnv11, .ref tn_12, .ref tn_13, .ref tn_14, .ref tn_15, .int tnv16, .ref tn_17, .ref tn_18, .ref tnt])), (tn_3, .inl (k 0, 10, .inl tng3)), (tn_4, .inl (k 0, 10, .inl tng4)), (tn_5, .inl (k 0, 10, .inl tng5)), (tn_9, .inl (k 0, 4, .inl tng9)), (tn_10, .inl (k 0, 4, .inl tng10))]) hP hD [1, 2, 9, 4, 5, 6, 7, 8] [0, 3] rfl rfl (by decide +kernel) (by decide +kernel) hk1 hFc hP1 hD1
  clear hK1 hP1 hD1 hPc hDc hFc
  clear hk1 hz1 ht hvm
  have hP : va_P D vwCl [(ob, .inr (7, [.int obv0, .int obv1, .ref obc, .ref ob_3, .int obv4, .ref ob_5, .ref ob_6])), (ob_3, .inl (k 0, 1024, .inl obg3)), (obc, .inr (1, [.ref obc_0, .int o_7, .int o_8])), (obc_0, .inl (k 0, 8, .inl o_9)), (tn, .inr (10, [.int tnv0, .int tnv1, .int tnv2, .ref tn_3, .ref tn_4, .ref tn_5, .ref tn_6, .int tnv7, .int tnv8, .ref tn_9, .ref tn_10, .int tnv11, .ref tn_12, .ref tn_13, .ref tn_14, .ref tn_15, .int tnv16, .ref tn_17, .ref tn_18, .ref tnt])), (tn_3, .inl (k 0, 10, .inl tng3)), (tn_4, .inl (k 0, 10, .inl tng4)), (tn_5, .inl (k 0, 10, .inl tng5)), (tn_9, .inl (k 0, 4, .inl tng9)), (tn_10, .inl (k 0, 4, .inl tng10))] H1 := hP
  have hD : va_D A [(ob, .inr (7, [.int obv0, .int obv1, .ref obc, .ref ob_3, .int obv4, .ref ob_5, .ref ob_6])), (ob_3, .inl (k 0, 1024, .inl obg3)), (obc, .inr (1, [.ref obc_0, .int o_7, .int o_8])), (obc_0, .inl (k 0, 8, .inl o_9)), (tn, .inr (10, [.int tnv0, .int tnv1, .int tnv2, .ref tn_3, .ref tn_4, .ref tn_5, .ref tn_6, .int tnv7, .int tnv8, .ref tn_9, .ref tn_10, .int tnv11, .ref tn_12, .ref tn_13, .ref tn_14, .ref tn_15, .int tnv16, .ref tn_17, .ref tn_18, .ref tnt])), (tn_3, .inl (k 0, 10, .inl tng3)), (tn_4, .inl (k 0, 10, .inl tng4)), (tn_5, .inl (k 0, 10, .inl tng5)), (tn_9, .inl (k 0, 4, .inl tng9)), (tn_10, .inl (k 0, 4, .inl tng10))] := hD
  generalize H1 = H at hP hS ⊢
  have hw_10 : (PR 8 1 0 0 1000000 o_9) := hw
  have hw_11 := hw_10
  clear hw
  refine lv_aload_n hx hb dX7_cutsAll_17 rfl (lv_at hl 0 rfl) ?_
  refine va_get (D := D) (ci := 7) (v := .ref obc) (C := RX7) (T := TX7) (N := 7) hx hb hts iT_X7 hown hK hP 0 rfl rfl 2 (by decide) (hts _ tw_2_68) (fun _ h9 => h9) rfl dX7_cutsAll_18 ?_
  refine va_get (D := D) (ci := 1) (v := .ref obc_0) (C := RX1) (T := TX1) (N := 3) hx hb hts iT_X1 hown hK hP 2 rfl rfl 0 (by decide) (hts _ tw_2_22) (fun _ h9 => h9) rfl dX7_cutsAll_21 ?_
  refine lv_iload_n hx hb dX7_cutsAll_24 rfl (lv_at hl 3 rfl) ?_
  refine va_iald hx hb hK hP 3 0 rfl rfl (z_in (by omega) (by omega)) dX7_cutsAll_25 ?_
  refine lv_topi (fun x_12 ex_12 => ?_)
  have zx_12r0 : 0 ≤ x_12.toInt ∧ x_12.toInt ≤ 1000000 := by rw [ex_12]; exact PR.ld hw_11 (by omega) (by omega) (by omega)
  refine lv_iload hx hb dX7_cutsAll_26 (lv_at hl 4 rfl) ?_
  refine lv_icmp_lt (tgt := 33) hx hb dX7_cutsAll_28 (by decide) (fun h_13 => ?_) (fun h_13 => ?_)
  · skip
    have zh_13 : x_12.toInt < p3.toInt := z_lt h_13
    refine lv_aload_n hx hb dX7_cutsAll_33 rfl (lv_at hl 0 rfl) ?_
    refine va_get (D := D) (ci := 7) (v := .int obv4) (C := RX7) (T := TX7) (N := 7) hx hb hts iT_X7 hown hK hP 0 rfl rfl 4 (by decide) (hts _ tw_2_70) (fun _ h9 => h9) rfl dX7_cutsAll_34 ?_
    refine lv_sipush (v := 1024) hx hb dX7_cutsAll_37 (by decide) ?_
    refine lv_icmp_ge (tgt := 71) hx hb dX7_cutsAll_40 (by decide) (fun h_14 => ?_) (fun h_14 => ?_)
    · skip
      have zh_14 : 1024 ≤ obv4.toInt := z_le h_14
      refine lv_iconst (v := 0) hx hb dX7_cutsAll_71 (by decide) ?_
      obtain ⟨hP9, hD9⟩ := sub2 hP hD (ws' := [(ob, .inr (7, [.int obv0, .int obv1, .ref obc, .ref ob_3, .int obv4, .ref ob_5, .ref ob_6])), (obc, .inr (1, [.ref obc_0, .int o_7, .int o_8])), (obc_0, .inl (k 0, 8, .inl o_9)), (ob_3, .inl (k 0, 1024, .inl obg3)), (tn, .inr (10, [.int tnv0, .int tnv1, .int tnv2, .ref tn_3, .ref tn_4, .ref tn_5, .ref tn_6, .int tnv7, .int tnv8, .ref tn_9, .ref tn_10, .int tnv11, .ref tn_12, .ref tn_13, .ref tn_14, .ref tn_15, .int tnv16, .ref tn_17, .ref tn_18, .ref tnt])), (tn_3, .inl (k 0, 10, .inl tng3)), (tn_4, .inl (k 0, 10, .inl tng4)), (tn_5, .inl (k 0, 10, .inl tng5)), (tn_9, .inl (k 0, 4, .inl tng9)), (tn_10, .inl (k 0, 4, .inl tng10))]) [0, 2, 3, 1, 4, 5, 6, 7, 8, 9] (by decide +kernel) rfl
      exact W.zret (v := 0) hx hb hr (by decide) (fun tZ ht hW => ⟨⟨0, (o_7, o_8, o_9, obv4, obg3), rfl, ⟨(show 0 ≤ 0 ∧ 0 ≤ 1 from by omega), hw_11, (show 0 ≤ obv4.toInt ∧ obv4.toInt ≤ 1024 from by omega)⟩, by rw [ht]; exact hP9, va_K.moved hW.alike hK, hD9⟩, hS.F ht⟩) hS.2.2 dX7_cutsAll_72
    · skip
      have zh_14 : obv4.toInt < 1024 := z_nle h_14
      refine lv_aload_n hx hb dX7_cutsAll_43 rfl (lv_at hl 0 rfl) ?_
      refine va_get (D := D) (ci := 7) (v := .ref ob_3) (C := RX7) (T := TX7) (N := 7) hx hb hts iT_X7 hown hK hP 0 rfl rfl 3 (by decide) (hts _ tw_2_69) (fun _ h9 => h9) rfl dX7_cutsAll_44 ?_
      refine lv_aload_n hx hb dX7_cutsAll_47 rfl (lv_at hl 0 rfl) ?_
      refine va_get (D := D) (ci := 7) (v := .int obv4) (C := RX7) (T := TX7) (N := 7) hx hb hts iT_X7 hown hK hP 0 rfl rfl 4 (by decide) (hts _ tw_2_70) (fun _ h9 => h9) rfl dX7_cutsAll_48 ?_
      refine lv_aload_n hx hb dX7_cutsAll_51 rfl (lv_at hl 0 rfl) ?_
      refine va_get (D := D) (ci := 7) (v := .ref obc) (C := RX7) (T := TX7) (N := 7) hx hb hts iT_X7 hown hK hP 0 rfl rfl 2 (by decide) (hts _ tw_2_68) (fun _ h9 => h9) rfl dX7_cutsAll_52 ?_
      refine lv_aload_n hx hb dX7_cutsAll_55 rfl (lv_at hl 1 rfl) ?_
      refine lv_iload_n hx hb dX7_cutsAll_56 rfl (lv_at hl 3 rfl) ?_
      obtain ⟨hPc, hDc, hFc⟩ := sub3 hP hD hS hA (ws' := [(obc, .inr (1, [.ref obc_0, .int o_7, .int o_8])), (obc_0, .inl (k 0, 8, .inl o_9)), (tn, .inr (10, [.int tnv0, .int tnv1, .int tnv2, .ref tn_3, .ref tn_4, .ref tn_5, .ref tn_6, .int tnv7, .int tnv8, .ref tn_9, .ref tn_10, .int tnv11, .ref tn_12, .ref tn_13, .ref tn_14, .ref tn_15, .int tnv16, .ref tn_17, .ref tn_18, .ref tnt])), (tn_3, .inl (k 0, 10, .inl tng3)), (tn_4, .inl (k 0, 10, .inl tng4)), (tn_5, .inl (k 0, 10, .inl tng5)), (tn_9, .inl (k 0, 4, .inl tng9)), (tn_10, .inl (k 0, 4, .inl tng10))]) [2, 3, 4, 5, 6, 7, 8, 9] (by decide +kernel) rfl
      refine va_calli (va_runV (C := RX1) (As := [.ref tn, .int p2]) (rest := [.int obv4, .ref ob_3]) ⟨hx, hb, hml, hown, hts⟩ (c_X1_wayTo l D k obc tn p2 obc_0 o_7 o_8 o_9 tnv0 tnv1 tnv2 tn_3 tn_4 tn_5 tn_6 tnv7 tnv8 tn_9 tn_10 tnv11 tn_12 tn_13 tn_14 tn_15 tnv16 tn_17 tn_18 tnt tng3 tng4 tng5 tng9 tng10 H.size (show 0 ≤ p2.toInt ∧ p2.toInt ≤ 7 from by omega) hw_11 (show 0 ≤ tnv0.toInt ∧ tnv0.toInt ≤ 8 from by omega) (show 0 ≤ tnv2.toInt ∧ tnv2.toInt ≤ 10 from by omega) (show 0 ≤ tnv8.toInt ∧ tnv8.toInt ≤ 4 from by omega) (show 0 ≤ tnv11.toInt ∧ tnv11.toInt ≤ 6 from by omega) (show 0 ≤ tnv16.toInt ∧ tnv16.toInt ≤ 2 from by omega) hp_tng3_0 hp_tng4_0 hp_tng5_0 hp_tng9_0 hp_tng10_0) (cwV 2 hts (gV tw_4_160 tw_4_96 tw_4_97 tw_1_6 tw_4_98) rfl rfl rfl hdV_X1_wayTo ⟨Nat.le_of_ble_eq_true rfl, Nat.le_of_ble_eq_true rfl⟩) (cz_V hK hPc hDc hN (ci := 1) (q0 := 0) rfl rfl [.ref tn, .int p2]) rfl rfl hl.1 rfl (lv_room (Nat.le_of_ble_eq_true rfl)) dX7_cutsAll_57 ⟨Nat.le_of_ble_eq_true rfl, Nat.le_of_ble_eq_true rfl⟩) hS (fun q _ h => hFc q h) hFc (fun r_15 uZ tZ H1 locs ht hvm hw hB hz1 hk1 hS => ?_)
      obtain ⟨hP1, hK1, hD1⟩ := hB
      rw [ht] at hP1
      obtain ⟨hP, hD⟩ := va_join (wr := [(ob, .inr (7, [.int obv0, .int obv1, .ref obc, .ref ob_3, .int obv4, .ref ob_5, .ref ob_6])), (ob_3, .inl (k 0, 1024, .inl obg3))]) (w1 := [(obc, .inr (1, [.ref obc_0, .int o_7, .int o_8])), (obc_0, .inl (k 0, 8, .inl o_9)), (tn, .inr (10, [.int tnv0, .int tnv1, .int tnv2, .ref tn_3, .ref tn_4, .ref tn_5, .ref tn_6, .int tnv7, .int tnv8, .ref tn_9, .ref tn_10, .int tnv11, .ref tn_12, .ref tn_13, .ref tn_14, .ref tn_15, .int tnv16, .ref tn_17, .ref tn_18, .ref tnt])), (tn_3, .inl (k 0, 10, .inl tng3)), (tn_4, .inl (k 0, 10, .inl tng4)), (tn_5, .inl (k 0, 10, .inl tng5)), (tn_9, .inl (k 0, 4, .inl tng9)), (tn_10, .inl (k 0, 4, .inl tng10))]) hP hD [2, 3, 4, 5, 6, 7, 8, 9] [0, 1] rfl rfl (by decide +kernel) (by decide +kernel) hk1 hFc hP1 hD1
      clear hK1 hP1 hD1 hPc hDc hFc
      clear hk1 hz1 ht hvm
      have hP : va_P D vwCl [(ob, .inr (7, [.int obv0, .int obv1, .ref obc, .ref ob_3, .int obv4, .ref ob_5, .ref ob_6])), (ob_3, .inl (k 0, 1024, .inl obg3)), (obc, .inr (1, [.ref obc_0, .int o_7, .int o_8])), (obc_0, .inl (k 0, 8, .inl o_9)), (tn, .inr (10, [.int tnv0, .int tnv1, .int tnv2, .ref tn_3, .ref tn_4, .ref tn_5, .ref tn_6, .int tnv7, .int tnv8, .ref tn_9, .ref tn_10, .int tnv11, .ref tn_12, .ref tn_13, .ref tn_14, .ref tn_15, .int tnv16, .ref tn_17, .ref tn_18, .ref tnt])), (tn_3, .inl (k 0, 10, .inl tng3)), (tn_4, .inl (k 0, 10, .inl tng4)), (tn_5, .inl (k 0, 10, .inl tng5)), (tn_9, .inl (k 0, 4, .inl tng9)), (tn_10, .inl (k 0, 4, .inl tng10))] H1 := hP
      have hD : va_D A [(ob, .inr (7, [.int obv0, .int obv1, .ref obc, .ref ob_3, .int obv4, .ref ob_5, .ref ob_6])), (ob_3, .inl (k 0, 1024, .inl obg3)), (obc, .inr (1, [.ref obc_0, .int o_7, .int o_8])), (obc_0, .inl (k 0, 8, .inl o_9)), (tn, .inr (10, [.int tnv0, .int tnv1, .int tnv2, .ref tn_3, .ref tn_4, .ref tn_5, .ref tn_6, .int tnv7, .int tnv8, .ref tn_9, .ref tn_10, .int tnv11, .ref tn_12, .ref tn_13, .ref tn_14, .ref tn_15, .int tnv16, .ref tn_17, .ref tn_18, .ref tnt])), (tn_3, .inl (k 0, 10, .inl tng3)), (tn_4, .inl (k 0, 10, .inl tng4)), (tn_5, .inl (k 0, 10, .inl tng5)), (tn_9, .inl (k 0, 4, .inl tng9)), (tn_10, .inl (k 0, 4, .inl tng10))] := hD
      generalize H1 = H at hP hS ⊢
      have hw_16 : (0 ≤ r_15.toInt ∧ r_15.toInt ≤ 1023) := hw
      have hw_17 := hw_16
      clear hw
      refine va_iast hx hb hK hP hD hS 1 0 rfl rfl (z_in (by omega) (by omega)) dX7_cutsAll_60 (fun H locs hP hD hS => ?_)
      obtain ⟨g_18, eg_18⟩ : ∃ z : Nat → Int32, upd obg3 obv4.toNatClampNeg r_15 = z := ⟨_, rfl⟩
      have hP : va_P D vwCl [(ob, .inr (7, [.int obv0, .int obv1, .ref obc, .ref ob_3, .int obv4, .ref ob_5, .ref ob_6])), (ob_3, .inl (k 0, 1024, .inl (upd obg3 obv4.toNatClampNeg r_15))), (obc, .inr (1, [.ref obc_0, .int o_7, .int o_8])), (obc_0, .inl (k 0, 8, .inl o_9)), (tn, .inr (10, [.int tnv0, .int tnv1, .int tnv2, .ref tn_3, .ref tn_4, .ref tn_5, .ref tn_6, .int tnv7, .int tnv8, .ref tn_9, .ref tn_10, .int tnv11, .ref tn_12, .ref tn_13, .ref tn_14, .ref tn_15, .int tnv16, .ref tn_17, .ref tn_18, .ref tnt])), (tn_3, .inl (k 0, 10, .inl tng3)), (tn_4, .inl (k 0, 10, .inl tng4)), (tn_5, .inl (k 0, 10, .inl tng5)), (tn_9, .inl (k 0, 4, .inl tng9)), (tn_10, .inl (k 0, 4, .inl tng10))] H := hP
      have hD : va_D A [(ob, .inr (7, [.int obv0, .int obv1, .ref obc, .ref ob_3, .int obv4, .ref ob_5, .ref ob_6])), (ob_3, .inl (k 0, 1024, .inl (upd obg3 obv4.toNatClampNeg r_15))), (obc, .inr (1, [.ref obc_0, .int o_7, .int o_8])), (obc_0, .inl (k 0, 8, .inl o_9)), (tn, .inr (10, [.int tnv0, .int tnv1, .int tnv2, .ref tn_3, .ref tn_4, .ref tn_5, .ref tn_6, .int tnv7, .int tnv8, .ref tn_9, .ref tn_10, .int tnv11, .ref tn_12, .ref tn_13, .ref tn_14, .ref tn_15, .int tnv16, .ref tn_17, .ref tn_18, .ref tnt])), (tn_3, .inl (k 0, 10, .inl tng3)), (tn_4, .inl (k 0, 10, .inl tng4)), (tn_5, .inl (k 0, 10, .inl tng5)), (tn_9, .inl (k 0, 4, .inl tng9)), (tn_10, .inl (k 0, 4, .inl tng10))] := hD
      rw [eg_18] at hP hD
      refine lv_aload_n hx hb dX7_cutsAll_61 rfl (lv_at hl 0 rfl) ?_
      refine lv_dup hx hb dX7_cutsAll_62 rfl ?_
      refine va_get (D := D) (ci := 7) (v := .int obv4) (C := RX7) (T := TX7) (N := 7) hx hb hts iT_X7 hown hK hP 0 rfl rfl 4 (by decide) (hts _ tw_2_70) (fun _ h9 => h9) rfl dX7_cutsAll_63 ?_
      refine lv_iconst (v := 1) hx hb dX7_cutsAll_66 (by decide) ?_
      refine lv_iadd hx hb dX7_cutsAll_67 ?_
      refine lv_topi (fun x_19 ex_19 => ?_)
      have zx_19 : x_19.toInt = obv4.toInt + 1 := by rw [ex_19]; exact z_add rfl rfl (by omega) (by omega)
      refine va_put (D := D) (ci := 7) (v := .int x_19) (ty := tyX7 4) (C := RX7) (T := TX7) (N := 7) hx hb hts iT_X7 tyX7 tyX7_ok nmX7 hown hK hP hD hS 0 rfl rfl 4 (by decide) (hts _ tw_2_70) (fun _ h9 => h9) rfl (tyX7_ok 4 (by decide)) rfl rfl (Nat.le_of_ble_eq_true rfl) dX7_cutsAll_68 (fun H locs hP hD hS => ?_)
      have hP : va_P D vwCl [(ob, .inr (7, [.int obv0, .int obv1, .ref obc, .ref ob_3, .int x_19, .ref ob_5, .ref ob_6])), (ob_3, .inl (k 0, 1024, .inl g_18)), (obc, .inr (1, [.ref obc_0, .int o_7, .int o_8])), (obc_0, .inl (k 0, 8, .inl o_9)), (tn, .inr (10, [.int tnv0, .int tnv1, .int tnv2, .ref tn_3, .ref tn_4, .ref tn_5, .ref tn_6, .int tnv7, .int tnv8, .ref tn_9, .ref tn_10, .int tnv11, .ref tn_12, .ref tn_13, .ref tn_14, .ref tn_15, .int tnv16, .ref tn_17, .ref tn_18, .ref tnt])), (tn_3, .inl (k 0, 10, .inl tng3)), (tn_4, .inl (k 0, 10, .inl tng4)), (tn_5, .inl (k 0, 10, .inl tng5)), (tn_9, .inl (k 0, 4, .inl tng9)), (tn_10, .inl (k 0, 4, .inl tng10))] H := hP
      have hD : va_D A [(ob, .inr (7, [.int obv0, .int obv1, .ref obc, .ref ob_3, .int x_19, .ref ob_5, .ref ob_6])), (ob_3, .inl (k 0, 1024, .inl g_18)), (obc, .inr (1, [.ref obc_0, .int o_7, .int o_8])), (obc_0, .inl (k 0, 8, .inl o_9)), (tn, .inr (10, [.int tnv0, .int tnv1, .int tnv2, .ref tn_3, .ref tn_4, .ref tn_5, .ref tn_6, .int tnv7, .int tnv8, .ref tn_9, .ref tn_10, .int tnv11, .ref tn_12, .ref tn_13, .ref tn_14, .ref tn_15, .int tnv16, .ref tn_17, .ref tn_18, .ref tnt])), (tn_3, .inl (k 0, 10, .inl tng3)), (tn_4, .inl (k 0, 10, .inl tng4)), (tn_5, .inl (k 0, 10, .inl tng5)), (tn_9, .inl (k 0, 4, .inl tng9)), (tn_10, .inl (k 0, 4, .inl tng10))] := hD
      refine lv_iconst (v := 0) hx hb dX7_cutsAll_71 (by decide) ?_
      obtain ⟨hP9, hD9⟩ := sub2 hP hD (ws' := [(ob, .inr (7, [.int obv0, .int obv1, .ref obc, .ref ob_3, .int x_19, .ref ob_5, .ref ob_6])), (obc, .inr (1, [.ref obc_0, .int o_7, .int o_8])), (obc_0, .inl (k 0, 8, .inl o_9)), (ob_3, .inl (k 0, 1024, .inl g_18)), (tn, .inr (10, [.int tnv0, .int tnv1, .int tnv2, .ref tn_3, .ref tn_4, .ref tn_5, .ref tn_6, .int tnv7, .int tnv8, .ref tn_9, .ref tn_10, .int tnv11, .ref tn_12, .ref tn_13, .ref tn_14, .ref tn_15, .int tnv16, .ref tn_17, .ref tn_18, .ref tnt])), (tn_3, .inl (k 0, 10, .inl tng3)), (tn_4, .inl (k 0, 10, .inl tng4)), (tn_5, .inl (k 0, 10, .inl tng5)), (tn_9, .inl (k 0, 4, .inl tng9)), (tn_10, .inl (k 0, 4, .inl tng10))]) [0, 2, 3, 1, 4, 5, 6, 7, 8, 9] (by decide +kernel) rfl
      exact W.zret (v := 0) hx hb hr (by decide) (fun tZ ht hW => ⟨⟨0, (o_7, o_8, o_9, x_19, g_18), rfl, ⟨(show 0 ≤ 0 ∧ 0 ≤ 1 from by omega), hw_11, (show 0 ≤ x_19.toInt ∧ x_19.toInt ≤ 1024 from by omega)⟩, by rw [ht]; exact hP9, va_K.moved hW.alike hK, hD9⟩, hS.F ht⟩) hS.2.2 dX7_cutsAll_72
  · skip
    have zh_13 : p3.toInt ≤ x_12.toInt := z_nlt h_13
    refine lv_iconst (v := 1) hx hb dX7_cutsAll_31 (by decide) ?_
    obtain ⟨hP9, hD9⟩ := sub2 hP hD (ws' := [(ob, .inr (7, [.int obv0, .int obv1, .ref obc, .ref ob_3, .int obv4, .ref ob_5, .ref ob_6])), (obc, .inr (1, [.ref obc_0, .int o_7, .int o_8])), (obc_0, .inl (k 0, 8, .inl o_9)), (ob_3, .inl (k 0, 1024, .inl obg3)), (tn, .inr (10, [.int tnv0, .int tnv1, .int tnv2, .ref tn_3, .ref tn_4, .ref tn_5, .ref tn_6, .int tnv7, .int tnv8, .ref tn_9, .ref tn_10, .int tnv11, .ref tn_12, .ref tn_13, .ref tn_14, .ref tn_15, .int tnv16, .ref tn_17, .ref tn_18, .ref tnt])), (tn_3, .inl (k 0, 10, .inl tng3)), (tn_4, .inl (k 0, 10, .inl tng4)), (tn_5, .inl (k 0, 10, .inl tng5)), (tn_9, .inl (k 0, 4, .inl tng9)), (tn_10, .inl (k 0, 4, .inl tng10))]) [0, 2, 3, 1, 4, 5, 6, 7, 8, 9] (by decide +kernel) rfl
    exact W.zret (v := 1) hx hb hr (by decide) (fun tZ ht hW => ⟨⟨1, (o_7, o_8, o_9, obv4, obg3), rfl, ⟨(show 0 ≤ 1 ∧ 1 ≤ 1 from by omega), hw_11, (show 0 ≤ obv4.toInt ∧ obv4.toInt ≤ 1024 from by omega)⟩, by rw [ht]; exact hP9, va_K.moved hW.alike hK, hD9⟩, hS.F ht⟩) hS.2.2 dX7_cutsAll_32
set_option maxHeartbeats 4000000 in
set_option maxRecDepth 100000 in
theorem c_X7_leastCut (l : Launch) (D : va_G) (k : Nat → ClassId) (ob : Nat) (tn : Nat) (p1 : Int32) (p2 : Int32) (obv0 : Int32) (obv1 : Int32) (obc : Nat) (ob_3 : Nat) (obv4 : Int32) (ob_5 : Nat) (ob_6 : Nat) (obc_0 : Nat) (obcv1 : Int32) (obcv2 : Int32) (obcg0 : Nat → Int32) (obg3 : Nat → Int32) (tnv0 : Int32) (tnv1 : Int32) (tnv2 : Int32) (tn_3 : Nat) (tn_4 : Nat) (tn_5 : Nat) (tn_6 : Nat) (tnv7 : Int32) (tnv8 : Int32) (tn_9 : Nat) (tn_10 : Nat) (tnv11 : Int32) (tn_12 : Nat) (tn_13 : Nat) (tn_14 : Nat) (tn_15 : Nat) (tnv16 : Int32) (tn_17 : Nat) (tn_18 : Nat) (tnt : Nat) (tng3 : Nat → Int32) (tng4 : Nat → Int32) (tng5 : Nat → Int32) (tng9 : Nat → Int32) (tng10 : Nat → Int32) (sz : Nat) (h_p1 : 0 ≤ p1.toInt ∧ p1.toInt ≤ 7) (h_obv4 : 0 ≤ obv4.toInt ∧ obv4.toInt ≤ 1024) (hp_obcg0_0 : PR 8 1 0 0 1000000 obcg0) (h_tnv0 : 0 ≤ tnv0.toInt ∧ tnv0.toInt ≤ 8) (h_tnv2 : 0 ≤ tnv2.toInt ∧ tnv2.toInt ≤ 10) (h_tnv8 : 0 ≤ tnv8.toInt ∧ tnv8.toInt ≤ 4) (h_tnv11 : 0 ≤ tnv11.toInt ∧ tnv11.toInt ≤ 6) (h_tnv16 : 0 ≤ tnv16.toInt ∧ tnv16.toInt ≤ 2) (hp_tng3_0 : PR 10 1 0 0 7 tng3) (hp_tng4_0 : PR 10 1 0 0 7 tng4) (hp_tng5_0 : PR 10 1 0 0 60 tng5) (hp_tng9_0 : PR 4 1 0 0 7 tng9) (hp_tng10_0 : PR 4 1 0 0 99 tng10) : Met l yX7_leastCut (ww yX7_leastCut cX7_leastCut 7 (some .int)) ({ frames := 5, cells := 0, slots := 0, locals := 124 }) (Pre0 D k [(ob, .inr (7, [.int obv0, .int obv1, .ref obc, .ref ob_3, .int obv4, .ref ob_5, .ref ob_6])), (obc, .inr (1, [.ref obc_0, .int obcv1, .int obcv2])), (obc_0, .inl (k 0, 8, .inl obcg0)), (ob_3, .inl (k 0, 1024, .inl obg3)), (tn, .inr (10, [.int tnv0, .int tnv1, .int tnv2, .ref tn_3, .ref tn_4, .ref tn_5, .ref tn_6, .int tnv7, .int tnv8, .ref tn_9, .ref tn_10, .int tnv11, .ref tn_12, .ref tn_13, .ref tn_14, .ref tn_15, .int tnv16, .ref tn_17, .ref tn_18, .ref tnt])), (tn_3, .inl (k 0, 10, .inl tng3)), (tn_4, .inl (k 0, 10, .inl tng4)), (tn_5, .inl (k 0, 10, .inl tng5)), (tn_9, .inl (k 0, 4, .inl tng9)), (tn_10, .inl (k 0, 4, .inl tng10))] sz [.ref ob, .ref tn, .int p1, .int p2]) (va_Qi (fun (r : Int32) (u : Int32 × Int32 × Int32 × (Nat → Int32) × (Nat → Int32)) => match u with | (obv4z, obcv1z, obcv2z, obcg0z, obg3z) => ((-1) ≤ r.toInt ∧ r.toInt ≤ 1023) ∧ (0 ≤ obv4z.toInt ∧ obv4z.toInt ≤ 1024) ∧ (PR 8 1 0 0 1000000 obcg0z)) (fun (u : Int32 × Int32 × Int32 × (Nat → Int32) × (Nat → Int32)) tZ => match u with | (obv4z, obcv1z, obcv2z, obcg0z, obg3z) => Bw D k (va_A [(ob, .inr (7, [.int obv0, .int obv1, .ref obc, .ref ob_3, .int obv4, .ref ob_5, .ref ob_6])), (obc, .inr (1, [.ref obc_0, .int obcv1, .int obcv2])), (obc_0, .inl (k 0, 8, .inl obcg0)), (ob_3, .inl (k 0, 1024, .inl obg3)), (tn, .inr (10, [.int tnv0, .int tnv1, .int tnv2, .ref tn_3, .ref tn_4, .ref tn_5, .ref tn_6, .int tnv7, .int tnv8, .ref tn_9, .ref tn_10, .int tnv11, .ref tn_12, .ref tn_13, .ref tn_14, .ref tn_15, .int tnv16, .ref tn_17, .ref tn_18, .ref tnt])), (tn_3, .inl (k 0, 10, .inl tng3)), (tn_4, .inl (k 0, 10, .inl tng4)), (tn_5, .inl (k 0, 10, .inl tng5)), (tn_9, .inl (k 0, 4, .inl tng9)), (tn_10, .inl (k 0, 4, .inl tng10))] sz) [(ob, .inr (7, [.int obv0, .int obv1, .ref obc, .ref ob_3, .int obv4z, .ref ob_5, .ref ob_6])), (obc, .inr (1, [.ref obc_0, .int obcv1z, .int obcv2z])), (obc_0, .inl (k 0, 8, .inl obcg0z)), (ob_3, .inl (k 0, 1024, .inl obg3z)), (tn, .inr (10, [.int tnv0, .int tnv1, .int tnv2, .ref tn_3, .ref tn_4, .ref tn_5, .ref tn_6, .int tnv7, .int tnv8, .ref tn_9, .ref tn_10, .int tnv11, .ref tn_12, .ref tn_13, .ref tn_14, .ref tn_15, .int tnv16, .ref tn_17, .ref tn_18, .ref tnt])), (tn_3, .inl (k 0, 10, .inl tng3)), (tn_4, .inl (k 0, 10, .inl tng4)), (tn_5, .inl (k 0, 10, .inl tng5)), (tn_9, .inl (k 0, 4, .inl tng9)), (tn_10, .inl (k 0, 4, .inl tng10))] tZ) (va_A [(ob, .inr (7, [.int obv0, .int obv1, .ref obc, .ref ob_3, .int obv4, .ref ob_5, .ref ob_6])), (obc, .inr (1, [.ref obc_0, .int obcv1, .int obcv2])), (obc_0, .inl (k 0, 8, .inl obcg0)), (ob_3, .inl (k 0, 1024, .inl obg3)), (tn, .inr (10, [.int tnv0, .int tnv1, .int tnv2, .ref tn_3, .ref tn_4, .ref tn_5, .ref tn_6, .int tnv7, .int tnv8, .ref tn_9, .ref tn_10, .int tnv11, .ref tn_12, .ref tn_13, .ref tn_14, .ref tn_15, .int tnv16, .ref tn_17, .ref tn_18, .ref tnt])), (tn_3, .inl (k 0, 10, .inl tng3)), (tn_4, .inl (k 0, 10, .inl tng4)), (tn_5, .inl (k 0, 10, .inl tng5)), (tn_9, .inl (k 0, 4, .inl tng9)), (tn_10, .inl (k 0, 4, .inl tng10))] sz)) 0 0 (va_A [(ob, .inr (7, [.int obv0, .int obv1, .ref obc, .ref ob_3, .int obv4, .ref ob_5, .ref ob_6])), (obc, .inr (1, [.ref obc_0, .int obcv1, .int obcv2])), (obc_0, .inl (k 0, 8, .inl obcg0)), (ob_3, .inl (k 0, 1024, .inl obg3)), (tn, .inr (10, [.int tnv0, .int tnv1, .int tnv2, .ref tn_3, .ref tn_4, .ref tn_5, .ref tn_6, .int tnv7, .int tnv8, .ref tn_9, .ref tn_10, .int tnv11, .ref tn_12, .ref tn_13, .ref tn_14, .ref tn_15, .int tnv16, .ref tn_17, .ref tn_18, .ref tnt])), (tn_3, .inl (k 0, 10, .inl tng3)), (tn_4, .inl (k 0, 10, .inl tng4)), (tn_5, .inl (k 0, 10, .inl tng5)), (tn_9, .inl (k 0, 4, .inl tng9)), (tn_10, .inl (k 0, 4, .inl tng10))] sz) := by
  refine Met.ofW (cc := cX7_leastCut) (maxL := 7) (ret := (some .int)) (by decide +kernel) rfl ?_
  intro p e s m args below meth c s₁ B hml hv
  obtain ⟨rfl, hsz, hP, hK, hD0, hN⟩ := hv
  have hx := B.exec
  have hb := B.bytes
  have hr := B.returns
  have hts : ∀ w ∈ TT, w.before _ s = true := fun w h => atoms_spec (ws := ww yX7_leastCut cX7_leastCut 7 (some .int)) B.pre w (List.mem_cons_of_mem _ h)
  have hown : s.vm.findClass RX7 = some m.cls := findClass_of_methodNamed B.named
  have hlocks := B.notSynchronized
  subst hsz
  have hD := hD0.self (sz := s.heap.size)
  generalize hAe : va_A [(ob, .inr (7, [.int obv0, .int obv1, .ref obc, .ref ob_3, .int obv4, .ref ob_5, .ref ob_6])), (obc, .inr (1, [.ref obc_0, .int obcv1, .int obcv2])), (obc_0, .inl (k 0, 8, .inl obcg0)), (ob_3, .inl (k 0, 1024, .inl obg3)), (tn, .inr (10, [.int tnv0, .int tnv1, .int tnv2, .ref tn_3, .ref tn_4, .ref tn_5, .ref tn_6, .int tnv7, .int tnv8, .ref tn_9, .ref tn_10, .int tnv11, .ref tn_12, .ref tn_13, .ref tn_14, .ref tn_15, .int tnv16, .ref tn_17, .ref tn_18, .ref tnt])), (tn_3, .inl (k 0, 10, .inl tng3)), (tn_4, .inl (k 0, 10, .inl tng4)), (tn_5, .inl (k 0, 10, .inl tng5)), (tn_9, .inl (k 0, 4, .inl tng9)), (tn_10, .inl (k 0, 4, .inl tng10))] s.heap.size = A at hD ⊢
  have hA : ∀ q : Nat, s.heap.size ≤ q → A q := fun q h => by rw [← hAe]; exact Or.inr h
  have hS : va_S A s.heap s.heap [] := va_S.rf
  have hl := lv_entry ([.ref ob, .ref tn, .int p1, .int p2]) (n := 7) (Nat.le_of_ble_eq_true rfl)
  rw [lg_entry_eq]
  generalize (lg_sl ([.ref ob, .ref tn, .int p1, .int p2]) ++ List.replicate (7 - (lg_sl ([.ref ob, .ref tn, .int p1, .int p2])).length) Slot.unset).toArray = ls at hl ⊢
  have hl : lv_has ls 7 [(0, .ref ob), (1, .ref tn), (2, .int p1), (3, .int p2)] := hl
  refine lv_aload_n hx hb dX7_leastCut_0 rfl (lv_at hl 1 rfl) ?_
  obtain ⟨hPc, hDc, hFc⟩ := sub3 hP hD hS hA (ws' := [(tn, .inr (10, [.int tnv0, .int tnv1, .int tnv2, .ref tn_3, .ref tn_4, .ref tn_5, .ref tn_6, .int tnv7, .int tnv8, .ref tn_9, .ref tn_10, .int tnv11, .ref tn_12, .ref tn_13, .ref tn_14, .ref tn_15, .int tnv16, .ref tn_17, .ref tn_18, .ref tnt]))]) [4] (by decide +kernel) rfl
  refine va_calli (va_runV (C := RX10) (As := []) (rest := []) ⟨hx, hb, hml, hown, hts⟩ (c_X10_openLanes l D k tn tnv0 tnv1 tnv2 tn_3 tn_4 tn_5 tn_6 tnv7 tnv8 tn_9 tn_10 tnv11 tn_12 tn_13 tn_14 tn_15 tnv16 tn_17 tn_18 tnt s.heap.size (show 0 ≤ tnv0.toInt ∧ tnv0.toInt ≤ 8 from by omega) (show 0 ≤ tnv2.toInt ∧ tnv2.toInt ≤ 10 from by omega) (show 0 ≤ tnv8.toInt ∧ tnv8.toInt ≤ 4 from by omega) (show 0 ≤ tnv11.toInt ∧ tnv11.toInt ≤ 6 from by omega) (show 0 ≤ tnv16.toInt ∧ tnv16.toInt ≤ 2 from by omega)) (cwV 0 hts (gV tw_4_130 tw_3_180 tw_3_181 tw_1_3 tw_3_182) rfl rfl rfl hdV_X10_openLanes ⟨Nat.le_of_ble_eq_true rfl, Nat.le_of_ble_eq_true rfl⟩) (cz_V hK hPc hDc hN (ci := 10) (q0 := 0) rfl rfl []) rfl rfl hl.1 rfl (lv_room (Nat.le_of_ble_eq_true rfl)) dX7_leastCut_1 ⟨Nat.le_of_ble_eq_true rfl, Nat.le_of_ble_eq_true rfl⟩) hS (fun q _ h => hFc q h) hFc (fun r_1 uZ tZ H1 locs ht hvm hw hB hz1 hk1 hS => ?_)
  obtain ⟨hP1, hK1, hD1⟩ := hB
  rw [ht] at hP1
  obtain ⟨hP, hD⟩ := va_join (wr := [(ob, .inr (7, [.int obv0, .int obv1, .ref obc, .ref ob_3, .int obv4, .ref ob_5, .ref ob_6])), (obc, .inr (1, [.ref obc_0, .int obcv1, .int obcv2])), (obc_0, .inl (k 0, 8, .inl obcg0)), (ob_3, .inl (k 0, 1024, .inl obg3)), (tn_3, .inl (k 0, 10, .inl tng3)), (tn_4, .inl (k 0, 10, .inl tng4)), (tn_5, .inl (k 0, 10, .inl tng5)), (tn_9, .inl (k 0, 4, .inl tng9)), (tn_10, .inl (k 0, 4, .inl tng10))]) (w1 := [(tn, .inr (10, [.int tnv0, .int tnv1, .int tnv2, .ref tn_3, .ref tn_4, .ref tn_5, .ref tn_6, .int tnv7, .int tnv8, .ref tn_9, .ref tn_10, .int tnv11, .ref tn_12, .ref tn_13, .ref tn_14, .ref tn_15, .int tnv16, .ref tn_17, .ref tn_18, .ref tnt]))]) hP hD [4] [0, 1, 2, 3, 5, 6, 7, 8, 9] rfl rfl (by decide +kernel) (by decide +kernel) hk1 hFc hP1 hD1
  clear hK1 hP1 hD1 hPc hDc hFc
  clear hk1 hz1 ht hvm
  have hP : va_P D vwCl [(ob, .inr (7, [.int obv0, .int obv1, .ref obc, .ref ob_3, .int obv4, .ref ob_5, .ref ob_6])), (obc, .inr (1, [.ref obc_0, .int obcv1, .int obcv2])), (obc_0, .inl (k 0, 8, .inl obcg0)), (ob_3, .inl (k 0, 1024, .inl obg3)), (tn_3, .inl (k 0, 10, .inl tng3)), (tn_4, .inl (k 0, 10, .inl tng4)), (tn_5, .inl (k 0, 10, .inl tng5)), (tn_9, .inl (k 0, 4, .inl tng9)), (tn_10, .inl (k 0, 4, .inl tng10)), (tn, .inr (10, [.int tnv0, .int tnv1, .int tnv2, .ref tn_3, .ref tn_4, .ref tn_5, .ref tn_6, .int tnv7, .int tnv8, .ref tn_9, .ref tn_10, .int tnv11, .ref tn_12, .ref tn_13, .ref tn_14, .ref tn_15, .int tnv16, .ref tn_17, .ref tn_18, .ref tnt]))] H1 := hP
  have hD : va_D A [(ob, .inr (7, [.int obv0, .int obv1, .ref obc, .ref ob_3, .int obv4, .ref ob_5, .ref ob_6])), (obc, .inr (1, [.ref obc_0, .int obcv1, .int obcv2])), (obc_0, .inl (k 0, 8, .inl obcg0)), (ob_3, .inl (k 0, 1024, .inl obg3)), (tn_3, .inl (k 0, 10, .inl tng3)), (tn_4, .inl (k 0, 10, .inl tng4)), (tn_5, .inl (k 0, 10, .inl tng5)), (tn_9, .inl (k 0, 4, .inl tng9)), (tn_10, .inl (k 0, 4, .inl tng10)), (tn, .inr (10, [.int tnv0, .int tnv1, .int tnv2, .ref tn_3, .ref tn_4, .ref tn_5, .ref tn_6, .int tnv7, .int tnv8, .ref tn_9, .ref tn_10, .int tnv11, .ref tn_12, .ref tn_13, .ref tn_14, .ref tn_15, .int tnv16, .ref tn_17, .ref tn_18, .ref tnt]))] := hD
  generalize H1 = H at hP hS ⊢
  have hw_2 : (0 ≤ r_1.toInt ∧ r_1.toInt ≤ 1023) := hw
  have hw_3 := hw_2
  clear hw
  refine lv_istore (lv' := [(4, .int r_1), (0, .ref ob), (1, .ref tn), (2, .int p1), (3, .int p2)]) hx hb dX7_leastCut_4 hl (by decide) rfl (fun ls hl => ?_)
  refine lv_aload_n hx hb dX7_leastCut_6 rfl (lv_at hl 1 rfl) ?_
  refine lv_iconst (v := 0) hx hb dX7_leastCut_7 (by decide) ?_
  refine va_put (D := D) (ci := 7) (v := .int 0) (ty := tyX7 4) (C := RX7) (T := TX7) (N := 7) hx hb hts iT_X7 tyX7 tyX7_ok nmX7 hown hK hP hD hS 0 rfl rfl 4 (by decide) (hts _ tw_2_70) (fun _ h9 => h9) rfl (tyX7_ok 4 (by decide)) rfl rfl (Nat.le_of_ble_eq_true rfl) dX7_leastCut_8 (fun H locs hP hD hS => ?_)
  have hP : va_P D vwCl [(ob, .inr (7, [.int obv0, .int obv1, .ref obc, .ref ob_3, .int 0, .ref ob_5, .ref ob_6])), (obc, .inr (1, [.ref obc_0, .int obcv1, .int obcv2])), (obc_0, .inl (k 0, 8, .inl obcg0)), (ob_3, .inl (k 0, 1024, .inl obg3)), (tn_3, .inl (k 0, 10, .inl tng3)), (tn_4, .inl (k 0, 10, .inl tng4)), (tn_5, .inl (k 0, 10, .inl tng5)), (tn_9, .inl (k 0, 4, .inl tng9)), (tn_10, .inl (k 0, 4, .inl tng10)), (tn, .inr (10, [.int tnv0, .int tnv1, .int tnv2, .ref tn_3, .ref tn_4, .ref tn_5, .ref tn_6, .int tnv7, .int tnv8, .ref tn_9, .ref tn_10, .int tnv11, .ref tn_12, .ref tn_13, .ref tn_14, .ref tn_15, .int tnv16, .ref tn_17, .ref tn_18, .ref tnt]))] H := hP
  have hD : va_D A [(ob, .inr (7, [.int obv0, .int obv1, .ref obc, .ref ob_3, .int 0, .ref ob_5, .ref ob_6])), (obc, .inr (1, [.ref obc_0, .int obcv1, .int obcv2])), (obc_0, .inl (k 0, 8, .inl obcg0)), (ob_3, .inl (k 0, 1024, .inl obg3)), (tn_3, .inl (k 0, 10, .inl tng3)), (tn_4, .inl (k 0, 10, .inl tng4)), (tn_5, .inl (k 0, 10, .inl tng5)), (tn_9, .inl (k 0, 4, .inl tng9)), (tn_10, .inl (k 0, 4, .inl tng10)), (tn, .inr (10, [.int tnv0, .int tnv1, .int tnv2, .ref tn_3, .ref tn_4, .ref tn_5, .ref tn_6, .int tnv7, .int tnv8, .ref tn_9, .ref tn_10, .int tnv11, .ref tn_12, .ref tn_13, .ref tn_14, .ref tn_15, .int tnv16, .ref tn_17, .ref tn_18, .ref tnt]))] := hD
  refine lv_iconst (v := 0) hx hb dX7_leastCut_11 (by decide) ?_
  refine lv_istore (lv' := [(5, .int 0), (4, .int r_1), (0, .ref ob), (1, .ref tn), (2, .int p1), (3, .int p2)]) hx hb dX7_leastCut_12 hl (by decide) rfl (fun ls hl => ?_)
  refine loop_r (Wg := fun H locs ls => W p l e _ s m _ below meth c H locs _ _ _ (F0 m 14 ls [])) (fun n9 H locs ls => ∃ (L14l5 : Int32) (L14f0x4 : Int32) (L14f1x1 : Int32) (L14f1x2 : Int32) (L14a2 : Nat → Int32) (L14a3 : Nat → Int32), n9 = (11 - L14l5.toInt).toNat ∧ (0 ≤ L14l5.toInt ∧ L14l5.toInt ≤ 11) ∧ (0 ≤ L14f0x4.toInt ∧ L14f0x4.toInt ≤ 1024) ∧ (PR 8 1 0 0 1000000 L14a2) ∧ va_P D vwCl [(ob, .inr (7, [.int obv0, .int obv1, .ref obc, .ref ob_3, .int L14f0x4, .ref ob_5, .ref ob_6])), (obc, .inr (1, [.ref obc_0, .int L14f1x1, .int L14f1x2])), (obc_0, .inl (k 0, 8, .inl L14a2)), (ob_3, .inl (k 0, 1024, .inl L14a3)), (tn_3, .inl (k 0, 10, .inl tng3)), (tn_4, .inl (k 0, 10, .inl tng4)), (tn_5, .inl (k 0, 10, .inl tng5)), (tn_9, .inl (k 0, 4, .inl tng9)), (tn_10, .inl (k 0, 4, .inl tng10)), (tn, .inr (10, [.int tnv0, .int tnv1, .int tnv2, .ref tn_3, .ref tn_4, .ref tn_5, .ref tn_6, .int tnv7, .int tnv8, .ref tn_9, .ref tn_10, .int tnv11, .ref tn_12, .ref tn_13, .ref tn_14, .ref tn_15, .int tnv16, .ref tn_17, .ref tn_18, .ref tnt]))] H ∧ va_D A [(ob, .inr (7, [.int obv0, .int obv1, .ref obc, .ref ob_3, .int L14f0x4, .ref ob_5, .ref ob_6])), (obc, .inr (1, [.ref obc_0, .int L14f1x1, .int L14f1x2])), (obc_0, .inl (k 0, 8, .inl L14a2)), (ob_3, .inl (k 0, 1024, .inl L14a3)), (tn_3, .inl (k 0, 10, .inl tng3)), (tn_4, .inl (k 0, 10, .inl tng4)), (tn_5, .inl (k 0, 10, .inl tng5)), (tn_9, .inl (k 0, 4, .inl tng9)), (tn_10, .inl (k 0, 4, .inl tng10)), (tn, .inr (10, [.int tnv0, .int tnv1, .int tnv2, .ref tn_3, .ref tn_4, .ref tn_5, .ref tn_6, .int tnv7, .int tnv8, .ref tn_9, .ref tn_10, .int tnv11, .ref tn_12, .ref tn_13, .ref tn_14, .ref tn_15, .int tnv16, .ref tn_17, .ref tn_18, .ref tnt]))] ∧ va_S A s.heap H locs ∧ lv_has ls 7 [(0, .ref ob), (1, .ref tn), (2, .int p1), (3, .int p2), (4, .int r_1), (5, .int L14l5)]) (fun n9 H locs ls hI ih_4 => ?_) _ _ _ _ ⟨0, 0, obcv1, obcv2, obcg0, obg3, rfl, (show 0 ≤ 0 ∧ 0 ≤ 11 from by omega), (show 0 ≤ 0 ∧ 0 ≤ 1024 from by omega), hp_obcg0_0, hP.sub (ws' := [(ob, .inr (7, [.int obv0, .int obv1, .ref obc, .ref ob_3, .int 0, .ref ob_5, .ref ob_6])), (obc, .inr (1, [.ref obc_0, .int obcv1, .int obcv2])), (obc_0, .inl (k 0, 8, .inl obcg0)), (ob_3, .inl (k 0, 1024, .inl obg3)), (tn_3, .inl (k 0, 10, .inl tng3)), (tn_4, .inl (k 0, 10, .inl tng4)), (tn_5, .inl (k 0, 10, .inl tng5)), (tn_9, .inl (k 0, 4, .inl tng9)), (tn_10, .inl (k 0, 4, .inl tng10)), (tn, .inr (10, [.int tnv0, .int tnv1, .int tnv2, .ref tn_3, .ref tn_4, .ref tn_5, .ref tn_6, .int tnv7, .int tnv8, .ref tn_9, .ref tn_10, .int tnv11, .ref tn_12, .ref tn_13, .ref tn_14, .ref tn_15, .int tnv16, .ref tn_17, .ref tn_18, .ref tnt]))]) [0, 1, 2, 3, 4, 5, 6, 7, 8, 9] rfl, hD.sub (ws' := [(ob, .inr (7, [.int obv0, .int obv1, .ref obc, .ref ob_3, .int 0, .ref ob_5, .ref ob_6])), (obc, .inr (1, [.ref obc_0, .int obcv1, .int obcv2])), (obc_0, .inl (k 0, 8, .inl obcg0)), (ob_3, .inl (k 0, 1024, .inl obg3)), (tn_3, .inl (k 0, 10, .inl tng3)), (tn_4, .inl (k 0, 10, .inl tng4)), (tn_5, .inl (k 0, 10, .inl tng5)), (tn_9, .inl (k 0, 4, .inl tng9)), (tn_10, .inl (k 0, 4, .inl tng10)), (tn, .inr (10, [.int tnv0, .int tnv1, .int tnv2, .ref tn_3, .ref tn_4, .ref tn_5, .ref tn_6, .int tnv7, .int tnv8, .ref tn_9, .ref tn_10, .int tnv11, .ref tn_12, .ref tn_13, .ref tn_14, .ref tn_15, .int tnv16, .ref tn_17, .ref tn_18, .ref tnt]))]) [0, 1, 2, 3, 4, 5, 6, 7, 8, 9] (by decide +kernel) rfl, hS, lv_sub hl [2, 3, 4, 5, 1, 0] rfl⟩
  clear hP hD hS hl
  obtain ⟨L14l5, L14f0x4, L14f1x1, L14f1x2, L14a2, L14a3, en_5, zL14l5, zL14f0x4, L14a2h0, hP, hD, hS, hl⟩ := hI
  refine lv_iload hx hb dX7_leastCut_14 (lv_at hl 5 rfl) ?_
  refine lv_bipush (v := 10) hx hb dX7_leastCut_16 (by decide) ?_
  refine lv_icmp_gt (tgt := 95) hx hb dX7_leastCut_18 (by decide) (fun h_6 => ?_) (fun h_6 => ?_)
  · skip
    have zh_6 : 10 < L14l5.toInt := z_lt h_6
    refine lv_iconst (v := (-1)) hx hb dX7_leastCut_95 (by decide) ?_
    obtain ⟨hP9, hD9⟩ := sub2 hP hD (ws' := [(ob, .inr (7, [.int obv0, .int obv1, .ref obc, .ref ob_3, .int L14f0x4, .ref ob_5, .ref ob_6])), (obc, .inr (1, [.ref obc_0, .int L14f1x1, .int L14f1x2])), (obc_0, .inl (k 0, 8, .inl L14a2)), (ob_3, .inl (k 0, 1024, .inl L14a3)), (tn, .inr (10, [.int tnv0, .int tnv1, .int tnv2, .ref tn_3, .ref tn_4, .ref tn_5, .ref tn_6, .int tnv7, .int tnv8, .ref tn_9, .ref tn_10, .int tnv11, .ref tn_12, .ref tn_13, .ref tn_14, .ref tn_15, .int tnv16, .ref tn_17, .ref tn_18, .ref tnt])), (tn_3, .inl (k 0, 10, .inl tng3)), (tn_4, .inl (k 0, 10, .inl tng4)), (tn_5, .inl (k 0, 10, .inl tng5)), (tn_9, .inl (k 0, 4, .inl tng9)), (tn_10, .inl (k 0, 4, .inl tng10))]) [0, 1, 2, 3, 9, 4, 5, 6, 7, 8] (by decide +kernel) rfl
    exact W.iret (v := (-1)) hx hb hr (fun tZ ht hW => ⟨⟨(-1), (L14f0x4, L14f1x1, L14f1x2, L14a2, L14a3), rfl, ⟨(show (-1) ≤ (-1) ∧ (-1) ≤ 1023 from by omega), (show 0 ≤ L14f0x4.toInt ∧ L14f0x4.toInt ≤ 1024 from by omega), L14a2h0⟩, by rw [ht]; exact hP9, va_K.moved hW.alike hK, hD9⟩, hS.F ht⟩) hS.2.2 dX7_leastCut_96
  · skip
    have zh_6 : L14l5.toInt ≤ 10 := z_nlt h_6
    refine lv_iconst (v := 0) hx hb dX7_leastCut_21 (by decide) ?_
    refine lv_istore (lv' := [(6, .int 0), (0, .ref ob), (1, .ref tn), (2, .int p1), (3, .int p2), (4, .int r_1), (5, .int L14l5)]) hx hb dX7_leastCut_22 hl (by decide) rfl (fun ls hl => ?_)
    refine loop_r (Wg := fun H locs ls => W p l e _ s m _ below meth c H locs _ _ _ (F0 m 24 ls [])) (fun n9 H locs ls => ∃ (L24l6 : Int32) (L24f0x4 : Int32) (L24f1x1 : Int32) (L24f1x2 : Int32) (L24a2 : Nat → Int32) (L24a3 : Nat → Int32), n9 = (1024 - L24l6.toInt).toNat ∧ (0 ≤ L24l6.toInt ∧ L24l6.toInt ≤ 1024) ∧ (0 ≤ L24f0x4.toInt ∧ L24f0x4.toInt ≤ 1024) ∧ (PR 8 1 0 0 1000000 L24a2) ∧ va_P D vwCl [(ob, .inr (7, [.int obv0, .int obv1, .ref obc, .ref ob_3, .int L24f0x4, .ref ob_5, .ref ob_6])), (obc, .inr (1, [.ref obc_0, .int L24f1x1, .int L24f1x2])), (obc_0, .inl (k 0, 8, .inl L24a2)), (ob_3, .inl (k 0, 1024, .inl L24a3)), (tn_3, .inl (k 0, 10, .inl tng3)), (tn_4, .inl (k 0, 10, .inl tng4)), (tn_5, .inl (k 0, 10, .inl tng5)), (tn_9, .inl (k 0, 4, .inl tng9)), (tn_10, .inl (k 0, 4, .inl tng10)), (tn, .inr (10, [.int tnv0, .int tnv1, .int tnv2, .ref tn_3, .ref tn_4, .ref tn_5, .ref tn_6, .int tnv7, .int tnv8, .ref tn_9, .ref tn_10, .int tnv11, .ref tn_12, .ref tn_13, .ref tn_14, .ref tn_15, .int tnv16, .ref tn_17, .ref tn_18, .ref tnt]))] H ∧ va_D A [(ob, .inr (7, [.int obv0, .int obv1, .ref obc, .ref ob_3, .int L24f0x4, .ref ob_5, .ref ob_6])), (obc, .inr (1, [.ref obc_0, .int L24f1x1, .int L24f1x2])), (obc_0, .inl (k 0, 8, .inl L24a2)), (ob_3, .inl (k 0, 1024, .inl L24a3)), (tn_3, .inl (k 0, 10, .inl tng3)), (tn_4, .inl (k 0, 10, .inl tng4)), (tn_5, .inl (k 0, 10, .inl tng5)), (tn_9, .inl (k 0, 4, .inl tng9)), (tn_10, .inl (k 0, 4, .inl tng10)), (tn, .inr (10, [.int tnv0, .int tnv1, .int tnv2, .ref tn_3, .ref tn_4, .ref tn_5, .ref tn_6, .int tnv7, .int tnv8, .ref tn_9, .ref tn_10, .int tnv11, .ref tn_12, .ref tn_13, .ref tn_14, .ref tn_15, .int tnv16, .ref tn_17, .ref tn_18, .ref tnt]))] ∧ va_S A s.heap H locs ∧ lv_has ls 7 [(0, .ref ob), (1, .ref tn), (2, .int p1), (3, .int p2), (4, .int r_1), (5, .int L14l5), (6, .int L24l6)]) (fun n9 H locs ls hI ih_7 => ?_) _ _ _ _ ⟨0, L14f0x4, L14f1x1, L14f1x2, L14a2, L14a3, rfl, (show 0 ≤ 0 ∧ 0 ≤ 1024 from by omega), (show 0 ≤ L14f0x4.toInt ∧ L14f0x4.toInt ≤ 1024 from by omega), L14a2h0, hP.sub (ws' := [(ob, .inr (7, [.int obv0, .int obv1, .ref obc, .ref ob_3, .int L14f0x4, .ref ob_5, .ref ob_6])), (obc, .inr (1, [.ref obc_0, .int L14f1x1, .int L14f1x2])), (obc_0, .inl (k 0, 8, .inl L14a2)), (ob_3, .inl (k 0, 1024, .inl L14a3)), (tn_3, .inl (k 0, 10, .inl tng3)), (tn_4, .inl (k 0, 10, .inl tng4)), (tn_5, .inl (k 0, 10, .inl tng5)), (tn_9, .inl (k 0, 4, .inl tng9)), (tn_10, .inl (k 0, 4, .inl tng10)), (tn, .inr (10, [.int tnv0, .int tnv1, .int tnv2, .ref tn_3, .ref tn_4, .ref tn_5, .ref tn_6, .int tnv7, .int tnv8, .ref tn_9, .ref tn_10, .int tnv11, .ref tn_12, .ref tn_13, .ref tn_14, .ref tn_15, .int tnv16, .ref tn_17, .ref tn_18, .ref tnt]))]) [0, 1, 2, 3, 4, 5, 6, 7, 8, 9] rfl, hD.sub (ws' := [(ob, .inr (7, [.int obv0, .int obv1, .ref obc, .ref ob_3, .int L14f0x4, .ref ob_5, .ref ob_6])), (obc, .inr (1, [.ref obc_0, .int L14f1x1, .int L14f1x2])), (obc_0, .inl (k 0, 8, .inl L14a2)), (ob_3, .inl (k 0, 1024, .inl L14a3)), (tn_3, .inl (k 0, 10, .inl tng3)), (tn_4, .inl (k 0, 10, .inl tng4)), (tn_5, .inl (k 0, 10, .inl tng5)), (tn_9, .inl (k 0, 4, .inl tng9)), (tn_10, .inl (k 0, 4, .inl tng10)), (tn, .inr (10, [.int tnv0, .int tnv1, .int tnv2, .ref tn_3, .ref tn_4, .ref tn_5, .ref tn_6, .int tnv7, .int tnv8, .ref tn_9, .ref tn_10, .int tnv11, .ref tn_12, .ref tn_13, .ref tn_14, .ref tn_15, .int tnv16, .ref tn_17, .ref tn_18, .ref tnt]))]) [0, 1, 2, 3, 4, 5, 6, 7, 8, 9] (by decide +kernel) rfl, hS, lv_sub hl [1, 2, 3, 4, 5, 6, 0] rfl⟩
    clear hP hD hS hl
    obtain ⟨L24l6, L24f0x4, L24f1x1, L24f1x2, L24a2, L24a3, en_8, zL24l6, zL24f0x4, L24a2h0, hP, hD, hS, hl⟩ := hI
    refine lv_iload hx hb dX7_leastCut_24 (lv_at hl 6 rfl) ?_
    refine lv_iload hx hb dX7_leastCut_26 (lv_at hl 4 rfl) ?_
    refine lv_icmp_gt (tgt := 89) hx hb dX7_leastCut_28 (by decide) (fun h_9 => ?_) (fun h_9 => ?_)
    · skip
      have zh_9 : r_1.toInt < L24l6.toInt := z_lt h_9
      obtain ⟨x_10, ex_10⟩ : ∃ y : Int32, y = L14l5 + 1 := ⟨_, rfl⟩
      have zx_10 : x_10.toInt = L14l5.toInt + 1 := by rw [ex_10]; exact z_add rfl rfl (by omega) (by omega)
      refine lv_iinc (v := x_10) (lv' := [(5, .int x_10), (0, .ref ob), (1, .ref tn), (2, .int p1), (3, .int p2), (4, .int r_1), (6, .int L24l6)]) hx hb dX7_leastCut_89 hl (k := 5) rfl (by rw [ex_10]; rfl) (by decide) rfl (fun ls hl => ?_)
      refine lv_goto (tgt := 14) hx hb dX7_leastCut_92 (by decide) ?_
      exact ih_4 _ _ _ _ (by omega) ⟨x_10, L24f0x4, L24f1x1, L24f1x2, L24a2, L24a3, rfl, (show 0 ≤ x_10.toInt ∧ x_10.toInt ≤ 11 from by omega), (show 0 ≤ L24f0x4.toInt ∧ L24f0x4.toInt ≤ 1024 from by omega), L24a2h0, hP.sub (ws' := [(ob, .inr (7, [.int obv0, .int obv1, .ref obc, .ref ob_3, .int L24f0x4, .ref ob_5, .ref ob_6])), (obc, .inr (1, [.ref obc_0, .int L24f1x1, .int L24f1x2])), (obc_0, .inl (k 0, 8, .inl L24a2)), (ob_3, .inl (k 0, 1024, .inl L24a3)), (tn_3, .inl (k 0, 10, .inl tng3)), (tn_4, .inl (k 0, 10, .inl tng4)), (tn_5, .inl (k 0, 10, .inl tng5)), (tn_9, .inl (k 0, 4, .inl tng9)), (tn_10, .inl (k 0, 4, .inl tng10)), (tn, .inr (10, [.int tnv0, .int tnv1, .int tnv2, .ref tn_3, .ref tn_4, .ref tn_5, .ref tn_6, .int tnv7, .int tnv8, .ref tn_9, .ref tn_10, .int tnv11, .ref tn_12, .ref tn_13, .ref tn_14, .ref tn_15, .int tnv16, .ref tn_17, .ref tn_18, .ref tnt]))]) [0, 1, 2, 3, 4, 5, 6, 7, 8, 9] rfl, hD.sub (ws' := [(ob, .inr (7, [.int obv0, .int obv1, .ref obc, .ref ob_3, .int L24f0x4, .ref ob_5, .ref ob_6])), (obc, .inr (1, [.ref obc_0, .int L24f1x1, .int L24f1x2])), (obc_0, .inl (k 0, 8, .inl L24a2)), (ob_3, .inl (k 0, 1024, .inl L24a3)), (tn_3, .inl (k 0, 10, .inl tng3)), (tn_4, .inl (k 0, 10, .inl tng4)), (tn_5, .inl (k 0, 10, .inl tng5)), (tn_9, .inl (k 0, 4, .inl tng9)), (tn_10, .inl (k 0, 4, .inl tng10)), (tn, .inr (10, [.int tnv0, .int tnv1, .int tnv2, .ref tn_3, .ref tn_4, .ref tn_5, .ref tn_6, .int tnv7, .int tnv8, .ref tn_9, .ref tn_10, .int tnv11, .ref tn_12, .ref tn_13, .ref tn_14, .ref tn_15, .int tnv16, .ref tn_17, .ref tn_18, .ref tnt]))]) [0, 1, 2, 3, 4, 5, 6, 7, 8, 9] (by decide +kernel) rfl, hS, lv_sub hl [1, 2, 3, 4, 5, 0] rfl⟩
    · skip
      have zh_9 : L24l6.toInt ≤ r_1.toInt := z_nlt h_9
      refine lv_iload hx hb dX7_leastCut_31 (lv_at hl 6 rfl) ?_
      refine lv_sipush (v := 1024) hx hb dX7_leastCut_33 (by decide) ?_
      refine lv_icmp_ge (tgt := 89) hx hb dX7_leastCut_36 (by decide) (fun h_11 => ?_) (fun h_11 => ?_)
      · skip
        have zh_11 : 1024 ≤ L24l6.toInt := z_le h_11
        exact False.elim (by omega)
      · skip
        have zh_11 : L24l6.toInt < 1024 := z_nle h_11
        refine lv_iload hx hb dX7_leastCut_39 (lv_at hl 6 rfl) ?_
        refine lv_iload hx hb dX7_leastCut_41 (lv_at hl 4 rfl) ?_
        refine lv_iconst (v := (-1)) hx hb dX7_leastCut_43 (by decide) ?_
        refine lv_ixor hx hb dX7_leastCut_44 ?_
        refine lv_topi (fun x_12 ex_12 => ?_)
        refine lv_iand hx hb dX7_leastCut_45 ?_
        refine lv_topi (fun x_13 ex_13 => ?_)
        have zrx_12 := z_rng x_12
        have zx_13 : 0 ≤ x_13.toInt ∧ x_13.toInt ≤ L24l6.toInt := by rw [ex_13]; exact z_andL (by omega)
        refine lv_if_ne (tgt := 83) hx hb dX7_leastCut_46 (by decide) (fun h_14 => ?_) (fun h_14 => ?_)
        · skip
          have zh_14 : ¬ x_13.toInt = 0 := z_ne h_14
          obtain ⟨x_15, ex_15⟩ : ∃ y : Int32, y = L24l6 + 1 := ⟨_, rfl⟩
          have zx_15 : x_15.toInt = L24l6.toInt + 1 := by rw [ex_15]; exact z_add rfl rfl (by omega) (by omega)
          refine lv_iinc (v := x_15) (lv' := [(6, .int x_15), (0, .ref ob), (1, .ref tn), (2, .int p1), (3, .int p2), (4, .int r_1), (5, .int L14l5)]) hx hb dX7_leastCut_83 hl (k := 6) rfl (by rw [ex_15]; rfl) (by decide) rfl (fun ls hl => ?_)
          refine lv_goto (tgt := 24) hx hb dX7_leastCut_86 (by decide) ?_
          exact ih_7 _ _ _ _ (by omega) ⟨x_15, L24f0x4, L24f1x1, L24f1x2, L24a2, L24a3, rfl, (show 0 ≤ x_15.toInt ∧ x_15.toInt ≤ 1024 from by omega), (show 0 ≤ L24f0x4.toInt ∧ L24f0x4.toInt ≤ 1024 from by omega), L24a2h0, hP.sub (ws' := [(ob, .inr (7, [.int obv0, .int obv1, .ref obc, .ref ob_3, .int L24f0x4, .ref ob_5, .ref ob_6])), (obc, .inr (1, [.ref obc_0, .int L24f1x1, .int L24f1x2])), (obc_0, .inl (k 0, 8, .inl L24a2)), (ob_3, .inl (k 0, 1024, .inl L24a3)), (tn_3, .inl (k 0, 10, .inl tng3)), (tn_4, .inl (k 0, 10, .inl tng4)), (tn_5, .inl (k 0, 10, .inl tng5)), (tn_9, .inl (k 0, 4, .inl tng9)), (tn_10, .inl (k 0, 4, .inl tng10)), (tn, .inr (10, [.int tnv0, .int tnv1, .int tnv2, .ref tn_3, .ref tn_4, .ref tn_5, .ref tn_6, .int tnv7, .int tnv8, .ref tn_9, .ref tn_10, .int tnv11, .ref tn_12, .ref tn_13, .ref tn_14, .ref tn_15, .int tnv16, .ref tn_17, .ref tn_18, .ref tnt]))]) [0, 1, 2, 3, 4, 5, 6, 7, 8, 9] rfl, hD.sub (ws' := [(ob, .inr (7, [.int obv0, .int obv1, .ref obc, .ref ob_3, .int L24f0x4, .ref ob_5, .ref ob_6])), (obc, .inr (1, [.ref obc_0, .int L24f1x1, .int L24f1x2])), (obc_0, .inl (k 0, 8, .inl L24a2)), (ob_3, .inl (k 0, 1024, .inl L24a3)), (tn_3, .inl (k 0, 10, .inl tng3)), (tn_4, .inl (k 0, 10, .inl tng4)), (tn_5, .inl (k 0, 10, .inl tng5)), (tn_9, .inl (k 0, 4, .inl tng9)), (tn_10, .inl (k 0, 4, .inl tng10)), (tn, .inr (10, [.int tnv0, .int tnv1, .int tnv2, .ref tn_3, .ref tn_4, .ref tn_5, .ref tn_6, .int tnv7, .int tnv8, .ref tn_9, .ref tn_10, .int tnv11, .ref tn_12, .ref tn_13, .ref tn_14, .ref tn_15, .int tnv16, .ref tn_17, .ref tn_18, .ref tnt]))]) [0, 1, 2, 3, 4, 5, 6, 7, 8, 9] (by decide +kernel) rfl, hS, lv_sub hl [1, 2, 3, 4, 5, 6, 0] rfl⟩
        · skip
          have zh_14 : x_13.toInt = 0 := z_eq h_14
          refine lv_iload hx hb dX7_leastCut_49 (lv_at hl 6 rfl) ?_
          obtain ⟨hPc, hDc, hFc⟩ := sub3 hP hD hS hA (ws' := []) [] (by decide +kernel) rfl
          refine va_calli (va_runS (As := [.int L24l6]) (rest := []) ⟨hx, hb, hml, hown, hts⟩ (c_J6_bitCount_0f7a4 l D k L24l6 H.size) (va_cwS 1 hts (gS tw_4_125 tw_4_101 tw_1_20 tw_4_102) rfl rfl rfl hdS_J6_bitCount_0f7a4 ⟨Nat.le_of_ble_eq_true rfl, Nat.le_of_ble_eq_true rfl⟩) (cz_S hK hPc hDc hN [.int L24l6]) rfl rfl hl.1 rfl (lv_room (Nat.le_of_ble_eq_true rfl)) dX7_leastCut_51 ⟨Nat.le_of_ble_eq_true rfl, Nat.le_of_ble_eq_true rfl⟩) hS (fun q _ h => hFc q h) hFc (fun r_16 uZ tZ H1 locs ht hvm hw hB hz1 hk1 hS => ?_)
          obtain ⟨hP1, hK1, hD1⟩ := hB
          rw [ht] at hP1
          obtain ⟨hP, hD⟩ := va_join (wr := [(ob, .inr (7, [.int obv0, .int obv1, .ref obc, .ref ob_3, .int L24f0x4, .ref ob_5, .ref ob_6])), (obc, .inr (1, [.ref obc_0, .int L24f1x1, .int L24f1x2])), (obc_0, .inl (k 0, 8, .inl L24a2)), (ob_3, .inl (k 0, 1024, .inl L24a3)), (tn_3, .inl (k 0, 10, .inl tng3)), (tn_4, .inl (k 0, 10, .inl tng4)), (tn_5, .inl (k 0, 10, .inl tng5)), (tn_9, .inl (k 0, 4, .inl tng9)), (tn_10, .inl (k 0, 4, .inl tng10)), (tn, .inr (10, [.int tnv0, .int tnv1, .int tnv2, .ref tn_3, .ref tn_4, .ref tn_5, .ref tn_6, .int tnv7, .int tnv8, .ref tn_9, .ref tn_10, .int tnv11, .ref tn_12, .ref tn_13, .ref tn_14, .ref tn_15, .int tnv16, .ref tn_17, .ref tn_18, .ref tnt]))]) (w1 := []) hP hD [] [0, 1, 2, 3, 4, 5, 6, 7, 8, 9] rfl rfl (by decide +kernel) (by decide +kernel) hk1 hFc hP1 hD1
          clear hK1 hP1 hD1 hPc hDc hFc
          clear hk1 hz1 ht hvm
          have hP : va_P D vwCl [(ob, .inr (7, [.int obv0, .int obv1, .ref obc, .ref ob_3, .int L24f0x4, .ref ob_5, .ref ob_6])), (obc, .inr (1, [.ref obc_0, .int L24f1x1, .int L24f1x2])), (obc_0, .inl (k 0, 8, .inl L24a2)), (ob_3, .inl (k 0, 1024, .inl L24a3)), (tn_3, .inl (k 0, 10, .inl tng3)), (tn_4, .inl (k 0, 10, .inl tng4)), (tn_5, .inl (k 0, 10, .inl tng5)), (tn_9, .inl (k 0, 4, .inl tng9)), (tn_10, .inl (k 0, 4, .inl tng10)), (tn, .inr (10, [.int tnv0, .int tnv1, .int tnv2, .ref tn_3, .ref tn_4, .ref tn_5, .ref tn_6, .int tnv7, .int tnv8, .ref tn_9, .ref tn_10, .int tnv11, .ref tn_12, .ref tn_13, .ref tn_14, .ref tn_15, .int tnv16, .ref tn_17, .ref tn_18, .ref tnt]))] H1 := hP
          have hD : va_D A [(ob, .inr (7, [.int obv0, .int obv1, .ref obc, .ref ob_3, .int L24f0x4, .ref ob_5, .ref ob_6])), (obc, .inr (1, [.ref obc_0, .int L24f1x1, .int L24f1x2])), (obc_0, .inl (k 0, 8, .inl L24a2)), (ob_3, .inl (k 0, 1024, .inl L24a3)), (tn_3, .inl (k 0, 10, .inl tng3)), (tn_4, .inl (k 0, 10, .inl tng4)), (tn_5, .inl (k 0, 10, .inl tng5)), (tn_9, .inl (k 0, 4, .inl tng9)), (tn_10, .inl (k 0, 4, .inl tng10)), (tn, .inr (10, [.int tnv0, .int tnv1, .int tnv2, .ref tn_3, .ref tn_4, .ref tn_5, .ref tn_6, .int tnv7, .int tnv8, .ref tn_9, .ref tn_10, .int tnv11, .ref tn_12, .ref tn_13, .ref tn_14, .ref tn_15, .int tnv16, .ref tn_17, .ref tn_18, .ref tnt]))] := hD
          generalize H1 = H at hP hS ⊢
          have hw_17 : (0 ≤ r_16.toInt ∧ r_16.toInt ≤ 63) := hw
          have hw_18 := hw_17
          clear hw
          refine lv_iload hx hb dX7_leastCut_54 (lv_at hl 5 rfl) ?_
          refine lv_icmp_ne (tgt := 83) hx hb dX7_leastCut_56 (by decide) (fun h_19 => ?_) (fun h_19 => ?_)
          · skip
            have zh_19 : ¬ r_16.toInt = L14l5.toInt := z_ne h_19
            obtain ⟨x_20, ex_20⟩ : ∃ y : Int32, y = L24l6 + 1 := ⟨_, rfl⟩
            have zx_20 : x_20.toInt = L24l6.toInt + 1 := by rw [ex_20]; exact z_add rfl rfl (by omega) (by omega)
            refine lv_iinc (v := x_20) (lv' := [(6, .int x_20), (0, .ref ob), (1, .ref tn), (2, .int p1), (3, .int p2), (4, .int r_1), (5, .int L14l5)]) hx hb dX7_leastCut_83 hl (k := 6) rfl (by rw [ex_20]; rfl) (by decide) rfl (fun ls hl => ?_)
            refine lv_goto (tgt := 24) hx hb dX7_leastCut_86 (by decide) ?_
            exact ih_7 _ _ _ _ (by omega) ⟨x_20, L24f0x4, L24f1x1, L24f1x2, L24a2, L24a3, rfl, (show 0 ≤ x_20.toInt ∧ x_20.toInt ≤ 1024 from by omega), (show 0 ≤ L24f0x4.toInt ∧ L24f0x4.toInt ≤ 1024 from by omega), L24a2h0, hP.sub (ws' := [(ob, .inr (7, [.int obv0, .int obv1, .ref obc, .ref ob_3, .int L24f0x4, .ref ob_5, .ref ob_6])), (obc, .inr (1, [.ref obc_0, .int L24f1x1, .int L24f1x2])), (obc_0, .inl (k 0, 8, .inl L24a2)), (ob_3, .inl (k 0, 1024, .inl L24a3)), (tn_3, .inl (k 0, 10, .inl tng3)), (tn_4, .inl (k 0, 10, .inl tng4)), (tn_5, .inl (k 0, 10, .inl tng5)), (tn_9, .inl (k 0, 4, .inl tng9)), (tn_10, .inl (k 0, 4, .inl tng10)), (tn, .inr (10, [.int tnv0, .int tnv1, .int tnv2, .ref tn_3, .ref tn_4, .ref tn_5, .ref tn_6, .int tnv7, .int tnv8, .ref tn_9, .ref tn_10, .int tnv11, .ref tn_12, .ref tn_13, .ref tn_14, .ref tn_15, .int tnv16, .ref tn_17, .ref tn_18, .ref tnt]))]) [0, 1, 2, 3, 4, 5, 6, 7, 8, 9] rfl, hD.sub (ws' := [(ob, .inr (7, [.int obv0, .int obv1, .ref obc, .ref ob_3, .int L24f0x4, .ref ob_5, .ref ob_6])), (obc, .inr (1, [.ref obc_0, .int L24f1x1, .int L24f1x2])), (obc_0, .inl (k 0, 8, .inl L24a2)), (ob_3, .inl (k 0, 1024, .inl L24a3)), (tn_3, .inl (k 0, 10, .inl tng3)), (tn_4, .inl (k 0, 10, .inl tng4)), (tn_5, .inl (k 0, 10, .inl tng5)), (tn_9, .inl (k 0, 4, .inl tng9)), (tn_10, .inl (k 0, 4, .inl tng10)), (tn, .inr (10, [.int tnv0, .int tnv1, .int tnv2, .ref tn_3, .ref tn_4, .ref tn_5, .ref tn_6, .int tnv7, .int tnv8, .ref tn_9, .ref tn_10, .int tnv11, .ref tn_12, .ref tn_13, .ref tn_14, .ref tn_15, .int tnv16, .ref tn_17, .ref tn_18, .ref tnt]))]) [0, 1, 2, 3, 4, 5, 6, 7, 8, 9] (by decide +kernel) rfl, hS, lv_sub hl [1, 2, 3, 4, 5, 6, 0] rfl⟩
          · skip
            have zh_19 : r_16.toInt = L14l5.toInt := z_eq h_19
            refine lv_aload_n hx hb dX7_leastCut_59 rfl (lv_at hl 0 rfl) ?_
            refine lv_iload hx hb dX7_leastCut_60 (lv_at hl 6 rfl) ?_
            obtain ⟨hPc, hDc, hFc⟩ := sub3 hP hD hS hA (ws' := [(ob, .inr (7, [.int obv0, .int obv1, .ref obc, .ref ob_3, .int L24f0x4, .ref ob_5, .ref ob_6])), (ob_3, .inl (k 0, 1024, .inl L24a3))]) [0, 3] (by decide +kernel) rfl
            refine va_calli (va_runV (C := RX7) (As := [.int L24l6]) (rest := []) ⟨hx, hb, hml, hown, hts⟩ (c_X7_cutsKnownWays l D k ob L24l6 obv0 obv1 obc ob_3 L24f0x4 ob_5 ob_6 L24a3 H.size (show 0 ≤ L24f0x4.toInt ∧ L24f0x4.toInt ≤ 1024 from by omega)) (cwV 1 hts (gV tw_4_152 tw_4_154 tw_p_26 tw_1_8 tw_4_155) rfl rfl rfl hdV_X7_cutsKnownWays ⟨Nat.le_of_ble_eq_true rfl, Nat.le_of_ble_eq_true rfl⟩) (cz_V hK hPc hDc hN (ci := 7) (q0 := 0) rfl rfl [.int L24l6]) rfl rfl hl.1 rfl (lv_room (Nat.le_of_ble_eq_true rfl)) dX7_leastCut_62 ⟨Nat.le_of_ble_eq_true rfl, Nat.le_of_ble_eq_true rfl⟩) hS (fun q _ h => hFc q h) hFc (fun r_21 uZ tZ H1 locs ht hvm hw hB hz1 hk1 hS => ?_)
            obtain ⟨hP1, hK1, hD1⟩ := hB
            rw [ht] at hP1
            obtain ⟨hP, hD⟩ := va_join (wr := [(obc, .inr (1, [.ref obc_0, .int L24f1x1, .int L24f1x2])), (obc_0, .inl (k 0, 8, .inl L24a2)), (tn_3, .inl (k 0, 10, .inl tng3)), (tn_4, .inl (k 0, 10, .inl tng4)), (tn_5, .inl (k 0, 10, .inl tng5)), (tn_9, .inl (k 0, 4, .inl tng9)), (tn_10, .inl (k 0, 4, .inl tng10)), (tn, .inr (10, [.int tnv0, .int tnv1, .int tnv2, .ref tn_3, .ref tn_4, .ref tn_5, .ref tn_6, .int tnv7, .int tnv8, .ref tn_9, .ref tn_10, .int tnv11, .ref tn_12, .ref tn_13, .ref tn_14, .ref tn_15, .int tnv16, .ref tn_17, .ref tn_18, .ref tnt]))]) (w1 := [(ob, .inr (7, [.int obv0, .int obv1, .ref obc, .ref ob_3, .int L24f0x4, .ref ob_5, .ref ob_6])), (ob_3, .inl (k 0, 1024, .inl L24a3))]) hP hD [0, 3] [1, 2, 4, 5, 6, 7, 8, 9] rfl rfl (by decide +kernel) (by decide +kernel) hk1 hFc hP1 hD1
            clear hK1 hP1 hD1 hPc hDc hFc
            clear hk1 hz1 ht hvm
            have hP : va_P D vwCl [(obc, .inr (1, [.ref obc_0, .int L24f1x1, .int L24f1x2])), (obc_0, .inl (k 0, 8, .inl L24a2)), (tn_3, .inl (k 0, 10, .inl tng3)), (tn_4, .inl (k 0, 10, .inl tng4)), (tn_5, .inl (k 0, 10, .inl tng5)), (tn_9, .inl (k 0, 4, .inl tng9)), (tn_10, .inl (k 0, 4, .inl tng10)), (tn, .inr (10, [.int tnv0, .int tnv1, .int tnv2, .ref tn_3, .ref tn_4, .ref tn_5, .ref tn_6, .int tnv7, .int tnv8, .ref tn_9, .ref tn_10, .int tnv11, .ref tn_12, .ref tn_13, .ref tn_14, .ref tn_15, .int tnv16, .ref tn_17, .ref tn_18, .ref tnt])), (ob, .inr (7, [.int obv0, .int obv1, .ref obc, .ref ob_3, .int L24f0x4, .ref ob_5, .ref ob_6])), (ob_3, .inl (k 0, 1024, .inl L24a3))] H1 := hP
            have hD : va_D A [(obc, .inr (1, [.ref obc_0, .int L24f1x1, .int L24f1x2])), (obc_0, .inl (k 0, 8, .inl L24a2)), (tn_3, .inl (k 0, 10, .inl tng3)), (tn_4, .inl (k 0, 10, .inl tng4)), (tn_5, .inl (k 0, 10, .inl tng5)), (tn_9, .inl (k 0, 4, .inl tng9)), (tn_10, .inl (k 0, 4, .inl tng10)), (tn, .inr (10, [.int tnv0, .int tnv1, .int tnv2, .ref tn_3, .ref tn_4, .ref tn_5, .ref tn_6, .int tnv7, .int tnv8, .ref tn_9, .ref tn_10, .int tnv11, .ref tn_12, .ref tn_13, .ref tn_14, .ref tn_15, .int tnv16, .ref tn_17, .ref tn_18, .ref tnt])), (ob, .inr (7, [.int obv0, .int obv1, .ref obc, .ref ob_3, .int L24f0x4, .ref ob_5, .ref ob_6])), (ob_3, .inl (k 0, 1024, .inl L24a3))] := hD
            generalize H1 = H at hP hS ⊢
            have hw_22 : (0 ≤ r_21.toInt ∧ r_21.toInt ≤ 1) := hw
            have hw_23 := hw_22
            clear hw
            refine lv_if_eq (tgt := 83) hx hb dX7_leastCut_65 (by decide) (fun h_24 => ?_) (fun h_24 => ?_)
            · skip
              have zh_24 : r_21.toInt = 0 := z_eq h_24
              obtain ⟨x_25, ex_25⟩ : ∃ y : Int32, y = L24l6 + 1 := ⟨_, rfl⟩
              have zx_25 : x_25.toInt = L24l6.toInt + 1 := by rw [ex_25]; exact z_add rfl rfl (by omega) (by omega)
              refine lv_iinc (v := x_25) (lv' := [(6, .int x_25), (0, .ref ob), (1, .ref tn), (2, .int p1), (3, .int p2), (4, .int r_1), (5, .int L14l5)]) hx hb dX7_leastCut_83 hl (k := 6) rfl (by rw [ex_25]; rfl) (by decide) rfl (fun ls hl => ?_)
              refine lv_goto (tgt := 24) hx hb dX7_leastCut_86 (by decide) ?_
              exact ih_7 _ _ _ _ (by omega) ⟨x_25, L24f0x4, L24f1x1, L24f1x2, L24a2, L24a3, rfl, (show 0 ≤ x_25.toInt ∧ x_25.toInt ≤ 1024 from by omega), (show 0 ≤ L24f0x4.toInt ∧ L24f0x4.toInt ≤ 1024 from by omega), L24a2h0, hP.sub (ws' := [(ob, .inr (7, [.int obv0, .int obv1, .ref obc, .ref ob_3, .int L24f0x4, .ref ob_5, .ref ob_6])), (obc, .inr (1, [.ref obc_0, .int L24f1x1, .int L24f1x2])), (obc_0, .inl (k 0, 8, .inl L24a2)), (ob_3, .inl (k 0, 1024, .inl L24a3)), (tn_3, .inl (k 0, 10, .inl tng3)), (tn_4, .inl (k 0, 10, .inl tng4)), (tn_5, .inl (k 0, 10, .inl tng5)), (tn_9, .inl (k 0, 4, .inl tng9)), (tn_10, .inl (k 0, 4, .inl tng10)), (tn, .inr (10, [.int tnv0, .int tnv1, .int tnv2, .ref tn_3, .ref tn_4, .ref tn_5, .ref tn_6, .int tnv7, .int tnv8, .ref tn_9, .ref tn_10, .int tnv11, .ref tn_12, .ref tn_13, .ref tn_14, .ref tn_15, .int tnv16, .ref tn_17, .ref tn_18, .ref tnt]))]) [8, 0, 1, 9, 2, 3, 4, 5, 6, 7] rfl, hD.sub (ws' := [(ob, .inr (7, [.int obv0, .int obv1, .ref obc, .ref ob_3, .int L24f0x4, .ref ob_5, .ref ob_6])), (obc, .inr (1, [.ref obc_0, .int L24f1x1, .int L24f1x2])), (obc_0, .inl (k 0, 8, .inl L24a2)), (ob_3, .inl (k 0, 1024, .inl L24a3)), (tn_3, .inl (k 0, 10, .inl tng3)), (tn_4, .inl (k 0, 10, .inl tng4)), (tn_5, .inl (k 0, 10, .inl tng5)), (tn_9, .inl (k 0, 4, .inl tng9)), (tn_10, .inl (k 0, 4, .inl tng10)), (tn, .inr (10, [.int tnv0, .int tnv1, .int tnv2, .ref tn_3, .ref tn_4, .ref tn_5, .ref tn_6, .int tnv7, .int tnv8, .ref tn_9, .ref tn_10, .int tnv11, .ref tn_12, .ref tn_13, .ref tn_14, .ref tn_15, .int tnv16, .ref tn_17, .ref tn_18, .ref tnt]))]) [8, 0, 1, 9, 2, 3, 4, 5, 6, 7] (by decide +kernel) rfl, hS, lv_sub hl [1, 2, 3, 4, 5, 6, 0] rfl⟩
            · skip
              have zh_24 : ¬ r_21.toInt = 0 := z_ne h_24
              refine lv_aload_n hx hb dX7_leastCut_68 rfl (lv_at hl 0 rfl) ?_
              refine lv_aload_n hx hb dX7_leastCut_69 rfl (lv_at hl 1 rfl) ?_
              refine lv_iload hx hb dX7_leastCut_70 (lv_at hl 6 rfl) ?_
              refine lv_iload_n hx hb dX7_leastCut_72 rfl (lv_at hl 2 rfl) ?_
              refine lv_iload_n hx hb dX7_leastCut_73 rfl (lv_at hl 3 rfl) ?_
              obtain ⟨hPc, hDc, hFc⟩ := sub3 hP hD hS hA (ws' := [(ob, .inr (7, [.int obv0, .int obv1, .ref obc, .ref ob_3, .int L24f0x4, .ref ob_5, .ref ob_6])), (obc, .inr (1, [.ref obc_0, .int L24f1x1, .int L24f1x2])), (obc_0, .inl (k 0, 8, .inl L24a2)), (ob_3, .inl (k 0, 1024, .inl L24a3)), (tn, .inr (10, [.int tnv0, .int tnv1, .int tnv2, .ref tn_3, .ref tn_4, .ref tn_5, .ref tn_6, .int tnv7, .int tnv8, .ref tn_9, .ref tn_10, .int tnv11, .ref tn_12, .ref tn_13, .ref tn_14, .ref tn_15, .int tnv16, .ref tn_17, .ref tn_18, .ref tnt])), (tn_3, .inl (k 0, 10, .inl tng3)), (tn_4, .inl (k 0, 10, .inl tng4)), (tn_5, .inl (k 0, 10, .inl tng5)), (tn_9, .inl (k 0, 4, .inl tng9)), (tn_10, .inl (k 0, 4, .inl tng10))]) [8, 0, 1, 9, 7, 2, 3, 4, 5, 6] (by decide +kernel) rfl
              refine va_calli (va_runV (C := RX7) (As := [.ref tn, .int L24l6, .int p1, .int p2]) (rest := []) ⟨hx, hb, hml, hown, hts⟩ (c_X7_cutsAll l D k ob tn L24l6 p1 p2 obv0 obv1 obc ob_3 L24f0x4 ob_5 ob_6 obc_0 L24f1x1 L24f1x2 L24a2 L24a3 tnv0 tnv1 tnv2 tn_3 tn_4 tn_5 tn_6 tnv7 tnv8 tn_9 tn_10 tnv11 tn_12 tn_13 tn_14 tn_15 tnv16 tn_17 tn_18 tnt tng3 tng4 tng5 tng9 tng10 H.size (show 0 ≤ p1.toInt ∧ p1.toInt ≤ 7 from by omega) (show 0 ≤ L24f0x4.toInt ∧ L24f0x4.toInt ≤ 1024 from by omega) L24a2h0 (show 0 ≤ tnv0.toInt ∧ tnv0.toInt ≤ 8 from by omega) (show 0 ≤ tnv2.toInt ∧ tnv2.toInt ≤ 10 from by omega) (show 0 ≤ tnv8.toInt ∧ tnv8.toInt ≤ 4 from by omega) (show 0 ≤ tnv11.toInt ∧ tnv11.toInt ≤ 6 from by omega) (show 0 ≤ tnv16.toInt ∧ tnv16.toInt ≤ 2 from by omega) hp_tng3_0 hp_tng4_0 hp_tng5_0 hp_tng9_0 hp_tng10_0) (cwV 4 hts (gV tw_4_156 tw_4_158 tw_p_27 tw_1_8 tw_4_159) rfl rfl rfl hdV_X7_cutsAll ⟨Nat.le_of_ble_eq_true rfl, Nat.le_of_ble_eq_true rfl⟩) (cz_V hK hPc hDc hN (ci := 7) (q0 := 0) rfl rfl [.ref tn, .int L24l6, .int p1, .int p2]) rfl rfl hl.1 rfl (lv_room (Nat.le_of_ble_eq_true rfl)) dX7_leastCut_74 ⟨Nat.le_of_ble_eq_true rfl, Nat.le_of_ble_eq_true rfl⟩) hS (fun q _ h => hFc q h) hFc (fun r_26 uZ tZ H1 locs ht hvm hw hB hz1 hk1 hS => ?_)
              obtain ⟨o_27, o_28, o_29, o_30, o_31⟩ := uZ
              obtain ⟨hP1, hK1, hD1⟩ := hB
              rw [ht] at hP1
              obtain ⟨hP, hD⟩ := va_join (wr := []) (w1 := [(ob, .inr (7, [.int obv0, .int obv1, .ref obc, .ref ob_3, .int o_30, .ref ob_5, .ref ob_6])), (obc, .inr (1, [.ref obc_0, .int o_27, .int o_28])), (obc_0, .inl (k 0, 8, .inl o_29)), (ob_3, .inl (k 0, 1024, .inl o_31)), (tn, .inr (10, [.int tnv0, .int tnv1, .int tnv2, .ref tn_3, .ref tn_4, .ref tn_5, .ref tn_6, .int tnv7, .int tnv8, .ref tn_9, .ref tn_10, .int tnv11, .ref tn_12, .ref tn_13, .ref tn_14, .ref tn_15, .int tnv16, .ref tn_17, .ref tn_18, .ref tnt])), (tn_3, .inl (k 0, 10, .inl tng3)), (tn_4, .inl (k 0, 10, .inl tng4)), (tn_5, .inl (k 0, 10, .inl tng5)), (tn_9, .inl (k 0, 4, .inl tng9)), (tn_10, .inl (k 0, 4, .inl tng10))]) hP hD [8, 0, 1, 9, 7, 2, 3, 4, 5, 6] [] rfl rfl (by decide +kernel) (by decide +kernel) hk1 hFc hP1 hD1
              clear hK1 hP1 hD1 hPc hDc hFc
              clear hk1 hz1 ht hvm
              have hP : va_P D vwCl [(ob, .inr (7, [.int obv0, .int obv1, .ref obc, .ref ob_3, .int o_30, .ref ob_5, .ref ob_6])), (obc, .inr (1, [.ref obc_0, .int o_27, .int o_28])), (obc_0, .inl (k 0, 8, .inl o_29)), (ob_3, .inl (k 0, 1024, .inl o_31)), (tn, .inr (10, [.int tnv0, .int tnv1, .int tnv2, .ref tn_3, .ref tn_4, .ref tn_5, .ref tn_6, .int tnv7, .int tnv8, .ref tn_9, .ref tn_10, .int tnv11, .ref tn_12, .ref tn_13, .ref tn_14, .ref tn_15, .int tnv16, .ref tn_17, .ref tn_18, .ref tnt])), (tn_3, .inl (k 0, 10, .inl tng3)), (tn_4, .inl (k 0, 10, .inl tng4)), (tn_5, .inl (k 0, 10, .inl tng5)), (tn_9, .inl (k 0, 4, .inl tng9)), (tn_10, .inl (k 0, 4, .inl tng10))] H1 := hP
              have hD : va_D A [(ob, .inr (7, [.int obv0, .int obv1, .ref obc, .ref ob_3, .int o_30, .ref ob_5, .ref ob_6])), (obc, .inr (1, [.ref obc_0, .int o_27, .int o_28])), (obc_0, .inl (k 0, 8, .inl o_29)), (ob_3, .inl (k 0, 1024, .inl o_31)), (tn, .inr (10, [.int tnv0, .int tnv1, .int tnv2, .ref tn_3, .ref tn_4, .ref tn_5, .ref tn_6, .int tnv7, .int tnv8, .ref tn_9, .ref tn_10, .int tnv11, .ref tn_12, .ref tn_13, .ref tn_14, .ref tn_15, .int tnv16, .ref tn_17, .ref tn_18, .ref tnt])), (tn_3, .inl (k 0, 10, .inl tng3)), (tn_4, .inl (k 0, 10, .inl tng4)), (tn_5, .inl (k 0, 10, .inl tng5)), (tn_9, .inl (k 0, 4, .inl tng9)), (tn_10, .inl (k 0, 4, .inl tng10))] := hD
              generalize H1 = H at hP hS ⊢
              have hw_32 : (0 ≤ r_26.toInt ∧ r_26.toInt ≤ 1) ∧ (PR 8 1 0 0 1000000 o_29) ∧ (0 ≤ o_30.toInt ∧ o_30.toInt ≤ 1024) := hw
              obtain ⟨hw_33, hw_34, hw_35⟩ := hw_32
              clear hw
              refine lv_if_eq (tgt := 83) hx hb dX7_leastCut_77 (by decide) (fun h_36 => ?_) (fun h_36 => ?_)
              · skip
                have zh_36 : r_26.toInt = 0 := z_eq h_36
                obtain ⟨x_37, ex_37⟩ : ∃ y : Int32, y = L24l6 + 1 := ⟨_, rfl⟩
                have zx_37 : x_37.toInt = L24l6.toInt + 1 := by rw [ex_37]; exact z_add rfl rfl (by omega) (by omega)
                refine lv_iinc (v := x_37) (lv' := [(6, .int x_37), (0, .ref ob), (1, .ref tn), (2, .int p1), (3, .int p2), (4, .int r_1), (5, .int L14l5)]) hx hb dX7_leastCut_83 hl (k := 6) rfl (by rw [ex_37]; rfl) (by decide) rfl (fun ls hl => ?_)
                refine lv_goto (tgt := 24) hx hb dX7_leastCut_86 (by decide) ?_
                exact ih_7 _ _ _ _ (by omega) ⟨x_37, o_30, o_27, o_28, o_29, o_31, rfl, (show 0 ≤ x_37.toInt ∧ x_37.toInt ≤ 1024 from by omega), (show 0 ≤ o_30.toInt ∧ o_30.toInt ≤ 1024 from by omega), hw_34, hP.sub (ws' := [(ob, .inr (7, [.int obv0, .int obv1, .ref obc, .ref ob_3, .int o_30, .ref ob_5, .ref ob_6])), (obc, .inr (1, [.ref obc_0, .int o_27, .int o_28])), (obc_0, .inl (k 0, 8, .inl o_29)), (ob_3, .inl (k 0, 1024, .inl o_31)), (tn_3, .inl (k 0, 10, .inl tng3)), (tn_4, .inl (k 0, 10, .inl tng4)), (tn_5, .inl (k 0, 10, .inl tng5)), (tn_9, .inl (k 0, 4, .inl tng9)), (tn_10, .inl (k 0, 4, .inl tng10)), (tn, .inr (10, [.int tnv0, .int tnv1, .int tnv2, .ref tn_3, .ref tn_4, .ref tn_5, .ref tn_6, .int tnv7, .int tnv8, .ref tn_9, .ref tn_10, .int tnv11, .ref tn_12, .ref tn_13, .ref tn_14, .ref tn_15, .int tnv16, .ref tn_17, .ref tn_18, .ref tnt]))]) [0, 1, 2, 3, 5, 6, 7, 8, 9, 4] rfl, hD.sub (ws' := [(ob, .inr (7, [.int obv0, .int obv1, .ref obc, .ref ob_3, .int o_30, .ref ob_5, .ref ob_6])), (obc, .inr (1, [.ref obc_0, .int o_27, .int o_28])), (obc_0, .inl (k 0, 8, .inl o_29)), (ob_3, .inl (k 0, 1024, .inl o_31)), (tn_3, .inl (k 0, 10, .inl tng3)), (tn_4, .inl (k 0, 10, .inl tng4)), (tn_5, .inl (k 0, 10, .inl tng5)), (tn_9, .inl (k 0, 4, .inl tng9)), (tn_10, .inl (k 0, 4, .inl tng10)), (tn, .inr (10, [.int tnv0, .int tnv1, .int tnv2, .ref tn_3, .ref tn_4, .ref tn_5, .ref tn_6, .int tnv7, .int tnv8, .ref tn_9, .ref tn_10, .int tnv11, .ref tn_12, .ref tn_13, .ref tn_14, .ref tn_15, .int tnv16, .ref tn_17, .ref tn_18, .ref tnt]))]) [0, 1, 2, 3, 5, 6, 7, 8, 9, 4] (by decide +kernel) rfl, hS, lv_sub hl [1, 2, 3, 4, 5, 6, 0] rfl⟩
              · skip
                have zh_36 : ¬ r_26.toInt = 0 := z_ne h_36
                refine lv_iload hx hb dX7_leastCut_80 (lv_at hl 6 rfl) ?_
                obtain ⟨hP9, hD9⟩ := sub2 hP hD (ws' := [(ob, .inr (7, [.int obv0, .int obv1, .ref obc, .ref ob_3, .int o_30, .ref ob_5, .ref ob_6])), (obc, .inr (1, [.ref obc_0, .int o_27, .int o_28])), (obc_0, .inl (k 0, 8, .inl o_29)), (ob_3, .inl (k 0, 1024, .inl o_31)), (tn, .inr (10, [.int tnv0, .int tnv1, .int tnv2, .ref tn_3, .ref tn_4, .ref tn_5, .ref tn_6, .int tnv7, .int tnv8, .ref tn_9, .ref tn_10, .int tnv11, .ref tn_12, .ref tn_13, .ref tn_14, .ref tn_15, .int tnv16, .ref tn_17, .ref tn_18, .ref tnt])), (tn_3, .inl (k 0, 10, .inl tng3)), (tn_4, .inl (k 0, 10, .inl tng4)), (tn_5, .inl (k 0, 10, .inl tng5)), (tn_9, .inl (k 0, 4, .inl tng9)), (tn_10, .inl (k 0, 4, .inl tng10))]) [0, 1, 2, 3, 4, 5, 6, 7, 8, 9] (by decide +kernel) rfl
                exact W.iret (v := L24l6) hx hb hr (fun tZ ht hW => ⟨⟨L24l6, (o_30, o_27, o_28, o_29, o_31), rfl, ⟨(show (-1) ≤ L24l6.toInt ∧ L24l6.toInt ≤ 1023 from by omega), (show 0 ≤ o_30.toInt ∧ o_30.toInt ≤ 1024 from by omega), hw_34⟩, by rw [ht]; exact hP9, va_K.moved hW.alike hK, hD9⟩, hS.F ht⟩) hS.2.2 dX7_leastCut_82
set_option maxHeartbeats 4000000 in
set_option maxRecDepth 100000 in
theorem c_X7_gladClerked (l : Launch) (D : va_G) (k : Nat → ClassId) (ob : Nat) (tn : Nat) (p1 : Int32) (p2 : Int32) (obv0 : Int32) (obv1 : Int32) (obc : Nat) (ob_3 : Nat) (obv4 : Int32) (ob_5 : Nat) (ob_6 : Nat) (obc_0 : Nat) (obcv1 : Int32) (obcv2 : Int32) (obcg0 : Nat → Int32) (tnv0 : Int32) (tnv1 : Int32) (tnv2 : Int32) (tn_3 : Nat) (tn_4 : Nat) (tn_5 : Nat) (tn_6 : Nat) (tnv7 : Int32) (tnv8 : Int32) (tn_9 : Nat) (tn_10 : Nat) (tnv11 : Int32) (tn_12 : Nat) (tn_13 : Nat) (tn_14 : Nat) (tn_15 : Nat) (tnv16 : Int32) (tn_17 : Nat) (tn_18 : Nat) (tnt : Nat) (tng3 : Nat → Int32) (tng4 : Nat → Int32) (tng5 : Nat → Int32) (tng9 : Nat → Int32) (tng10 : Nat → Int32) (tng12 : Nat → Int32) (tng13 : Nat → Int32) (tng14 : Nat → Int32) (sz : Nat) (h_p1 : 0 ≤ p1.toInt ∧ p1.toInt ≤ 3) (h_obv4 : 0 ≤ obv4.toInt ∧ obv4.toInt ≤ 1024) (hp_obcg0_0 : PR 8 1 0 0 1000000 obcg0) (h_tnv0 : 0 ≤ tnv0.toInt ∧ tnv0.toInt ≤ 8) (h_tnv2 : 0 ≤ tnv2.toInt ∧ tnv2.toInt ≤ 10) (h_tnv8 : 0 ≤ tnv8.toInt ∧ tnv8.toInt ≤ 4) (h_tnv11 : 0 ≤ tnv11.toInt ∧ tnv11.toInt ≤ 6) (h_tnv16 : 0 ≤ tnv16.toInt ∧ tnv16.toInt ≤ 2) (hp_tng3_0 : PR 10 1 0 0 7 tng3) (hp_tng4_0 : PR 10 1 0 0 7 tng4) (hp_tng5_0 : PR 10 1 0 0 60 tng5) (hp_tng9_0 : PR 4 1 0 0 7 tng9) (hp_tng10_0 : PR 4 1 0 0 99 tng10) (hp_tng12_0 : PR 6 1 0 0 7 tng12) (hp_tng13_0 : PR 6 1 0 0 999 tng13) (hp_tng14_0 : PR 6 1 0 0 999 tng14) : Met l yX7_gladClerked (ww yX7_gladClerked cX7_gladClerked 5 (some .int)) ({ frames := 4, cells := 0, slots := 0, locals := 88 }) (Pre0 D k [(ob, .inr (7, [.int obv0, .int obv1, .ref obc, .ref ob_3, .int obv4, .ref ob_5, .ref ob_6])), (obc, .inr (1, [.ref obc_0, .int obcv1, .int obcv2])), (obc_0, .inl (k 0, 8, .inl obcg0)), (tn, .inr (10, [.int tnv0, .int tnv1, .int tnv2, .ref tn_3, .ref tn_4, .ref tn_5, .ref tn_6, .int tnv7, .int tnv8, .ref tn_9, .ref tn_10, .int tnv11, .ref tn_12, .ref tn_13, .ref tn_14, .ref tn_15, .int tnv16, .ref tn_17, .ref tn_18, .ref tnt])), (tn_3, .inl (k 0, 10, .inl tng3)), (tn_4, .inl (k 0, 10, .inl tng4)), (tn_5, .inl (k 0, 10, .inl tng5)), (tn_9, .inl (k 0, 4, .inl tng9)), (tn_10, .inl (k 0, 4, .inl tng10)), (tn_12, .inl (k 0, 6, .inl tng12)), (tn_13, .inl (k 0, 6, .inl tng13)), (tn_14, .inl (k 0, 6, .inl tng14))] sz [.ref ob, .ref tn, .int p1, .int p2]) (va_Qi (fun (r : Int32) (u : Int32 × Int32 × (Nat → Int32)) => match u with | (obcv1z, obcv2z, obcg0z) => (PR 8 1 0 0 1000000 obcg0z)) (fun (u : Int32 × Int32 × (Nat → Int32)) tZ => match u with | (obcv1z, obcv2z, obcg0z) => Bw D k (va_A [(ob, .inr (7, [.int obv0, .int obv1, .ref obc, .ref ob_3, .int obv4, .ref ob_5, .ref ob_6])), (obc, .inr (1, [.ref obc_0, .int obcv1, .int obcv2])), (obc_0, .inl (k 0, 8, .inl obcg0)), (tn, .inr (10, [.int tnv0, .int tnv1, .int tnv2, .ref tn_3, .ref tn_4, .ref tn_5, .ref tn_6, .int tnv7, .int tnv8, .ref tn_9, .ref tn_10, .int tnv11, .ref tn_12, .ref tn_13, .ref tn_14, .ref tn_15, .int tnv16, .ref tn_17, .ref tn_18, .ref tnt])), (tn_3, .inl (k 0, 10, .inl tng3)), (tn_4, .inl (k 0, 10, .inl tng4)), (tn_5, .inl (k 0, 10, .inl tng5)), (tn_9, .inl (k 0, 4, .inl tng9)), (tn_10, .inl (k 0, 4, .inl tng10)), (tn_12, .inl (k 0, 6, .inl tng12)), (tn_13, .inl (k 0, 6, .inl tng13)), (tn_14, .inl (k 0, 6, .inl tng14))] sz) [(ob, .inr (7, [.int obv0, .int obv1, .ref obc, .ref ob_3, .int obv4, .ref ob_5, .ref ob_6])), (obc, .inr (1, [.ref obc_0, .int obcv1z, .int obcv2z])), (obc_0, .inl (k 0, 8, .inl obcg0z)), (tn, .inr (10, [.int tnv0, .int tnv1, .int tnv2, .ref tn_3, .ref tn_4, .ref tn_5, .ref tn_6, .int tnv7, .int tnv8, .ref tn_9, .ref tn_10, .int tnv11, .ref tn_12, .ref tn_13, .ref tn_14, .ref tn_15, .int tnv16, .ref tn_17, .ref tn_18, .ref tnt])), (tn_3, .inl (k 0, 10, .inl tng3)), (tn_4, .inl (k 0, 10, .inl tng4)), (tn_5, .inl (k 0, 10, .inl tng5)), (tn_9, .inl (k 0, 4, .inl tng9)), (tn_10, .inl (k 0, 4, .inl tng10)), (tn_12, .inl (k 0, 6, .inl tng12)), (tn_13, .inl (k 0, 6, .inl tng13)), (tn_14, .inl (k 0, 6, .inl tng14))] tZ) (va_A [(ob, .inr (7, [.int obv0, .int obv1, .ref obc, .ref ob_3, .int obv4, .ref ob_5, .ref ob_6])), (obc, .inr (1, [.ref obc_0, .int obcv1, .int obcv2])), (obc_0, .inl (k 0, 8, .inl obcg0)), (tn, .inr (10, [.int tnv0, .int tnv1, .int tnv2, .ref tn_3, .ref tn_4, .ref tn_5, .ref tn_6, .int tnv7, .int tnv8, .ref tn_9, .ref tn_10, .int tnv11, .ref tn_12, .ref tn_13, .ref tn_14, .ref tn_15, .int tnv16, .ref tn_17, .ref tn_18, .ref tnt])), (tn_3, .inl (k 0, 10, .inl tng3)), (tn_4, .inl (k 0, 10, .inl tng4)), (tn_5, .inl (k 0, 10, .inl tng5)), (tn_9, .inl (k 0, 4, .inl tng9)), (tn_10, .inl (k 0, 4, .inl tng10)), (tn_12, .inl (k 0, 6, .inl tng12)), (tn_13, .inl (k 0, 6, .inl tng13)), (tn_14, .inl (k 0, 6, .inl tng14))] sz)) 0 0 (va_A [(ob, .inr (7, [.int obv0, .int obv1, .ref obc, .ref ob_3, .int obv4, .ref ob_5, .ref ob_6])), (obc, .inr (1, [.ref obc_0, .int obcv1, .int obcv2])), (obc_0, .inl (k 0, 8, .inl obcg0)), (tn, .inr (10, [.int tnv0, .int tnv1, .int tnv2, .ref tn_3, .ref tn_4, .ref tn_5, .ref tn_6, .int tnv7, .int tnv8, .ref tn_9, .ref tn_10, .int tnv11, .ref tn_12, .ref tn_13, .ref tn_14, .ref tn_15, .int tnv16, .ref tn_17, .ref tn_18, .ref tnt])), (tn_3, .inl (k 0, 10, .inl tng3)), (tn_4, .inl (k 0, 10, .inl tng4)), (tn_5, .inl (k 0, 10, .inl tng5)), (tn_9, .inl (k 0, 4, .inl tng9)), (tn_10, .inl (k 0, 4, .inl tng10)), (tn_12, .inl (k 0, 6, .inl tng12)), (tn_13, .inl (k 0, 6, .inl tng13)), (tn_14, .inl (k 0, 6, .inl tng14))] sz) := by
  refine Met.ofW (cc := cX7_gladClerked) (maxL := 5) (ret := (some .int)) (by decide +kernel) rfl ?_
  intro p e s m args below meth c s₁ B hml hv
  obtain ⟨rfl, hsz, hP, hK, hD0, hN⟩ := hv
  have hx := B.exec
  have hb := B.bytes
  have hr := B.returns
  have hts : ∀ w ∈ TT, w.before _ s = true := fun w h => atoms_spec (ws := ww yX7_gladClerked cX7_gladClerked 5 (some .int)) B.pre w (List.mem_cons_of_mem _ h)
  have hown : s.vm.findClass RX7 = some m.cls := findClass_of_methodNamed B.named
  have hlocks := B.notSynchronized
  subst hsz
  have hD := hD0.self (sz := s.heap.size)
  generalize hAe : va_A [(ob, .inr (7, [.int obv0, .int obv1, .ref obc, .ref ob_3, .int obv4, .ref ob_5, .ref ob_6])), (obc, .inr (1, [.ref obc_0, .int obcv1, .int obcv2])), (obc_0, .inl (k 0, 8, .inl obcg0)), (tn, .inr (10, [.int tnv0, .int tnv1, .int tnv2, .ref tn_3, .ref tn_4, .ref tn_5, .ref tn_6, .int tnv7, .int tnv8, .ref tn_9, .ref tn_10, .int tnv11, .ref tn_12, .ref tn_13, .ref tn_14, .ref tn_15, .int tnv16, .ref tn_17, .ref tn_18, .ref tnt])), (tn_3, .inl (k 0, 10, .inl tng3)), (tn_4, .inl (k 0, 10, .inl tng4)), (tn_5, .inl (k 0, 10, .inl tng5)), (tn_9, .inl (k 0, 4, .inl tng9)), (tn_10, .inl (k 0, 4, .inl tng10)), (tn_12, .inl (k 0, 6, .inl tng12)), (tn_13, .inl (k 0, 6, .inl tng13)), (tn_14, .inl (k 0, 6, .inl tng14))] s.heap.size = A at hD ⊢
  have hA : ∀ q : Nat, s.heap.size ≤ q → A q := fun q h => by rw [← hAe]; exact Or.inr h
  have hS : va_S A s.heap s.heap [] := va_S.rf
  have hl := lv_entry ([.ref ob, .ref tn, .int p1, .int p2]) (n := 5) (Nat.le_of_ble_eq_true rfl)
  rw [lg_entry_eq]
  generalize (lg_sl ([.ref ob, .ref tn, .int p1, .int p2]) ++ List.replicate (5 - (lg_sl ([.ref ob, .ref tn, .int p1, .int p2])).length) Slot.unset).toArray = ls at hl ⊢
  have hl : lv_has ls 5 [(0, .ref ob), (1, .ref tn), (2, .int p1), (3, .int p2)] := hl
  refine lv_aload_n hx hb dX7_gladClerked_0 rfl (lv_at hl 1 rfl) ?_
  refine va_get (D := D) (ci := 10) (v := .ref tn_10) (C := RX10) (T := TX10) (N := 20) hx hb hts iT_X10 hown hK hP 3 rfl rfl 10 (by decide) (hts _ tw_1_117) (fun _ h9 => h9) rfl dX7_gladClerked_1 ?_
  refine lv_iload_n hx hb dX7_gladClerked_4 rfl (lv_at hl 2 rfl) ?_
  refine va_iald hx hb hK hP 8 0 rfl rfl (z_in (by omega) (by omega)) dX7_gladClerked_5 ?_
  refine lv_topi (fun x_1 ex_1 => ?_)
  have zx_1r0 : 0 ≤ x_1.toInt ∧ x_1.toInt ≤ 99 := by rw [ex_1]; exact PR.ld hp_tng10_0 (by omega) (by omega) (by omega)
  refine lv_bipush (v := 30) hx hb dX7_gladClerked_6 (by decide) ?_
  refine lv_iadd hx hb dX7_gladClerked_8 ?_
  refine lv_topi (fun x_2 ex_2 => ?_)
  have zx_2 : x_2.toInt = x_1.toInt + 30 := by rw [ex_2]; exact z_add rfl rfl (by omega) (by omega)
  refine lv_istore (lv' := [(4, .int x_2), (0, .ref ob), (1, .ref tn), (2, .int p1), (3, .int p2)]) hx hb dX7_gladClerked_9 hl (by decide) rfl (fun ls hl => ?_)
  refine lv_aload_n hx hb dX7_gladClerked_11 rfl (lv_at hl 1 rfl) ?_
  refine va_get (D := D) (ci := 7) (v := .ref obc) (C := RX7) (T := TX7) (N := 7) hx hb hts iT_X7 hown hK hP 0 rfl rfl 2 (by decide) (hts _ tw_2_68) (fun _ h9 => h9) rfl dX7_gladClerked_12 ?_
  refine lv_aload_n hx hb dX7_gladClerked_15 rfl (lv_at hl 2 rfl) ?_
  refine lv_iload_n hx hb dX7_gladClerked_16 rfl (lv_at hl 3 rfl) ?_
  refine lv_iload hx hb dX7_gladClerked_17 (lv_at hl 0 rfl) ?_
  refine lv_aload_n hx hb dX7_gladClerked_19 rfl (lv_at hl 2 rfl) ?_
  obtain ⟨hPc, hDc, hFc⟩ := sub3 hP hD hS hA (ws' := [(tn, .inr (10, [.int tnv0, .int tnv1, .int tnv2, .ref tn_3, .ref tn_4, .ref tn_5, .ref tn_6, .int tnv7, .int tnv8, .ref tn_9, .ref tn_10, .int tnv11, .ref tn_12, .ref tn_13, .ref tn_14, .ref tn_15, .int tnv16, .ref tn_17, .ref tn_18, .ref tnt]))]) [3] (by decide +kernel) rfl
  refine va_calli (va_runV (C := RX10) (As := []) (rest := [.int x_2, .int p1, .ref tn, .ref obc]) ⟨hx, hb, hml, hown, hts⟩ (c_X10_openLanes l D k tn tnv0 tnv1 tnv2 tn_3 tn_4 tn_5 tn_6 tnv7 tnv8 tn_9 tn_10 tnv11 tn_12 tn_13 tn_14 tn_15 tnv16 tn_17 tn_18 tnt s.heap.size (show 0 ≤ tnv0.toInt ∧ tnv0.toInt ≤ 8 from by omega) (show 0 ≤ tnv2.toInt ∧ tnv2.toInt ≤ 10 from by omega) (show 0 ≤ tnv8.toInt ∧ tnv8.toInt ≤ 4 from by omega) (show 0 ≤ tnv11.toInt ∧ tnv11.toInt ≤ 6 from by omega) (show 0 ≤ tnv16.toInt ∧ tnv16.toInt ≤ 2 from by omega)) (cwV 0 hts (gV tw_4_130 tw_3_180 tw_3_181 tw_1_3 tw_3_182) rfl rfl rfl hdV_X10_openLanes ⟨Nat.le_of_ble_eq_true rfl, Nat.le_of_ble_eq_true rfl⟩) (cz_V hK hPc hDc hN (ci := 10) (q0 := 0) rfl rfl []) rfl rfl hl.1 rfl (lv_room (Nat.le_of_ble_eq_true rfl)) dX7_gladClerked_20 ⟨Nat.le_of_ble_eq_true rfl, Nat.le_of_ble_eq_true rfl⟩) hS (fun q _ h => hFc q h) hFc (fun r_3 uZ tZ H1 locs ht hvm hw hB hz1 hk1 hS => ?_)
  obtain ⟨hP1, hK1, hD1⟩ := hB
  rw [ht] at hP1
  obtain ⟨hP, hD⟩ := va_join (wr := [(ob, .inr (7, [.int obv0, .int obv1, .ref obc, .ref ob_3, .int obv4, .ref ob_5, .ref ob_6])), (obc, .inr (1, [.ref obc_0, .int obcv1, .int obcv2])), (obc_0, .inl (k 0, 8, .inl obcg0)), (tn_3, .inl (k 0, 10, .inl tng3)), (tn_4, .inl (k 0, 10, .inl tng4)), (tn_5, .inl (k 0, 10, .inl tng5)), (tn_9, .inl (k 0, 4, .inl tng9)), (tn_10, .inl (k 0, 4, .inl tng10)), (tn_12, .inl (k 0, 6, .inl tng12)), (tn_13, .inl (k 0, 6, .inl tng13)), (tn_14, .inl (k 0, 6, .inl tng14))]) (w1 := [(tn, .inr (10, [.int tnv0, .int tnv1, .int tnv2, .ref tn_3, .ref tn_4, .ref tn_5, .ref tn_6, .int tnv7, .int tnv8, .ref tn_9, .ref tn_10, .int tnv11, .ref tn_12, .ref tn_13, .ref tn_14, .ref tn_15, .int tnv16, .ref tn_17, .ref tn_18, .ref tnt]))]) hP hD [3] [0, 1, 2, 4, 5, 6, 7, 8, 9, 10, 11] rfl rfl (by decide +kernel) (by decide +kernel) hk1 hFc hP1 hD1
  clear hK1 hP1 hD1 hPc hDc hFc
  clear hk1 hz1 ht hvm
  have hP : va_P D vwCl [(ob, .inr (7, [.int obv0, .int obv1, .ref obc, .ref ob_3, .int obv4, .ref ob_5, .ref ob_6])), (obc, .inr (1, [.ref obc_0, .int obcv1, .int obcv2])), (obc_0, .inl (k 0, 8, .inl obcg0)), (tn_3, .inl (k 0, 10, .inl tng3)), (tn_4, .inl (k 0, 10, .inl tng4)), (tn_5, .inl (k 0, 10, .inl tng5)), (tn_9, .inl (k 0, 4, .inl tng9)), (tn_10, .inl (k 0, 4, .inl tng10)), (tn_12, .inl (k 0, 6, .inl tng12)), (tn_13, .inl (k 0, 6, .inl tng13)), (tn_14, .inl (k 0, 6, .inl tng14)), (tn, .inr (10, [.int tnv0, .int tnv1, .int tnv2, .ref tn_3, .ref tn_4, .ref tn_5, .ref tn_6, .int tnv7, .int tnv8, .ref tn_9, .ref tn_10, .int tnv11, .ref tn_12, .ref tn_13, .ref tn_14, .ref tn_15, .int tnv16, .ref tn_17, .ref tn_18, .ref tnt]))] H1 := hP
  have hD : va_D A [(ob, .inr (7, [.int obv0, .int obv1, .ref obc, .ref ob_3, .int obv4, .ref ob_5, .ref ob_6])), (obc, .inr (1, [.ref obc_0, .int obcv1, .int obcv2])), (obc_0, .inl (k 0, 8, .inl obcg0)), (tn_3, .inl (k 0, 10, .inl tng3)), (tn_4, .inl (k 0, 10, .inl tng4)), (tn_5, .inl (k 0, 10, .inl tng5)), (tn_9, .inl (k 0, 4, .inl tng9)), (tn_10, .inl (k 0, 4, .inl tng10)), (tn_12, .inl (k 0, 6, .inl tng12)), (tn_13, .inl (k 0, 6, .inl tng13)), (tn_14, .inl (k 0, 6, .inl tng14)), (tn, .inr (10, [.int tnv0, .int tnv1, .int tnv2, .ref tn_3, .ref tn_4, .ref tn_5, .ref tn_6, .int tnv7, .int tnv8, .ref tn_9, .ref tn_10, .int tnv11, .ref tn_12, .ref tn_13, .ref tn_14, .ref tn_15, .int tnv16, .ref tn_17, .ref tn_18, .ref tnt]))] := hD
  generalize H1 = H at hP hS ⊢
  have hw_4 : (0 ≤ r_3.toInt ∧ r_3.toInt ≤ 1023) := hw
  have hw_5 := hw_4
  clear hw
  refine lv_iload_n hx hb dX7_gladClerked_23 rfl (lv_at hl 4 rfl) ?_
  refine lv_iconst (v := (-1)) hx hb dX7_gladClerked_24 (by decide) ?_
  refine lv_ixor hx hb dX7_gladClerked_25 ?_
  refine lv_topi (fun x_6 ex_6 => ?_)
  have zrp2 := z_rng p2
  refine lv_iand hx hb dX7_gladClerked_26 ?_
  refine lv_topi (fun x_7 ex_7 => ?_)
  have zrx_6 := z_rng x_6
  have zx_7 : 0 ≤ x_7.toInt ∧ x_7.toInt ≤ r_3.toInt := by rw [ex_7]; exact z_andL (by omega)
  refine lv_iconst (v := 0) hx hb dX7_gladClerked_27 (by decide) ?_
  obtain ⟨hPc, hDc, hFc⟩ := sub3 hP hD hS hA (ws' := [(obc, .inr (1, [.ref obc_0, .int obcv1, .int obcv2])), (obc_0, .inl (k 0, 8, .inl obcg0)), (tn, .inr (10, [.int tnv0, .int tnv1, .int tnv2, .ref tn_3, .ref tn_4, .ref tn_5, .ref tn_6, .int tnv7, .int tnv8, .ref tn_9, .ref tn_10, .int tnv11, .ref tn_12, .ref tn_13, .ref tn_14, .ref tn_15, .int tnv16, .ref tn_17, .ref tn_18, .ref tnt])), (tn_3, .inl (k 0, 10, .inl tng3)), (tn_4, .inl (k 0, 10, .inl tng4)), (tn_5, .inl (k 0, 10, .inl tng5)), (tn_9, .inl (k 0, 4, .inl tng9)), (tn_10, .inl (k 0, 4, .inl tng10))]) [1, 2, 11, 3, 4, 5, 6, 7] (by decide +kernel) rfl
  refine va_callv (va_runV (C := RX1) (As := [.ref tn, .int p1, .int x_2, .int x_7, .int 0]) (rest := []) ⟨hx, hb, hml, hown, hts⟩ (c_X1_fallHeld l D k obc tn p1 x_2 x_7 0 obc_0 obcv1 obcv2 obcg0 tnv0 tnv1 tnv2 tn_3 tn_4 tn_5 tn_6 tnv7 tnv8 tn_9 tn_10 tnv11 tn_12 tn_13 tn_14 tn_15 tnv16 tn_17 tn_18 tnt tng3 tng4 tng5 tng9 tng10 H.size (show 0 ≤ x_2.toInt ∧ x_2.toInt ≤ 1000000 from by omega) hp_obcg0_0 (show 0 ≤ tnv0.toInt ∧ tnv0.toInt ≤ 8 from by omega) (show 0 ≤ tnv2.toInt ∧ tnv2.toInt ≤ 10 from by omega) (show 0 ≤ tnv8.toInt ∧ tnv8.toInt ≤ 4 from by omega) (show 0 ≤ tnv11.toInt ∧ tnv11.toInt ≤ 6 from by omega) (show 0 ≤ tnv16.toInt ∧ tnv16.toInt ≤ 2 from by omega) hp_tng3_0 hp_tng4_0 hp_tng5_0 hp_tng9_0 hp_tng10_0) (cwV 5 hts (gV tw_5_117 tw_3_188 tw_3_189 tw_1_6 tw_3_190) rfl rfl rfl hdV_X1_fallHeld ⟨Nat.le_of_ble_eq_true rfl, Nat.le_of_ble_eq_true rfl⟩) (cz_V hK hPc hDc hN (ci := 1) (q0 := 0) rfl rfl [.ref tn, .int p1, .int x_2, .int x_7, .int 0]) rfl rfl hl.1 rfl (lv_room (Nat.le_of_ble_eq_true rfl)) dX7_gladClerked_28 ⟨Nat.le_of_ble_eq_true rfl, Nat.le_of_ble_eq_true rfl⟩) hS (fun q _ h => hFc q h) hFc (fun uZ tZ H1 locs ht hvm hw hB hz1 hk1 hS => ?_)
  obtain ⟨o_9, o_10, o_11⟩ := uZ
  obtain ⟨hP1, hK1, hD1⟩ := hB
  rw [ht] at hP1
  obtain ⟨hP, hD⟩ := va_join (wr := [(ob, .inr (7, [.int obv0, .int obv1, .ref obc, .ref ob_3, .int obv4, .ref ob_5, .ref ob_6])), (tn_12, .inl (k 0, 6, .inl tng12)), (tn_13, .inl (k 0, 6, .inl tng13)), (tn_14, .inl (k 0, 6, .inl tng14))]) (w1 := [(obc, .inr (1, [.ref obc_0, .int o_9, .int o_10])), (obc_0, .inl (k 0, 8, .inl o_11)), (tn, .inr (10, [.int tnv0, .int tnv1, .int tnv2, .ref tn_3, .ref tn_4, .ref tn_5, .ref tn_6, .int tnv7, .int tnv8, .ref tn_9, .ref tn_10, .int tnv11, .ref tn_12, .ref tn_13, .ref tn_14, .ref tn_15, .int tnv16, .ref tn_17, .ref tn_18, .ref tnt])), (tn_3, .inl (k 0, 10, .inl tng3)), (tn_4, .inl (k 0, 10, .inl tng4)), (tn_5, .inl (k 0, 10, .inl tng5)), (tn_9, .inl (k 0, 4, .inl tng9)), (tn_10, .inl (k 0, 4, .inl tng10))]) hP hD [1, 2, 11, 3, 4, 5, 6, 7] [0, 8, 9, 10] rfl rfl (by decide +kernel) (by decide +kernel) hk1 hFc hP1 hD1
  clear hK1 hP1 hD1 hPc hDc hFc
  clear hk1 hz1 ht hvm
  have hP : va_P D vwCl [(ob, .inr (7, [.int obv0, .int obv1, .ref obc, .ref ob_3, .int obv4, .ref ob_5, .ref ob_6])), (tn_12, .inl (k 0, 6, .inl tng12)), (tn_13, .inl (k 0, 6, .inl tng13)), (tn_14, .inl (k 0, 6, .inl tng14)), (obc, .inr (1, [.ref obc_0, .int o_9, .int o_10])), (obc_0, .inl (k 0, 8, .inl o_11)), (tn, .inr (10, [.int tnv0, .int tnv1, .int tnv2, .ref tn_3, .ref tn_4, .ref tn_5, .ref tn_6, .int tnv7, .int tnv8, .ref tn_9, .ref tn_10, .int tnv11, .ref tn_12, .ref tn_13, .ref tn_14, .ref tn_15, .int tnv16, .ref tn_17, .ref tn_18, .ref tnt])), (tn_3, .inl (k 0, 10, .inl tng3)), (tn_4, .inl (k 0, 10, .inl tng4)), (tn_5, .inl (k 0, 10, .inl tng5)), (tn_9, .inl (k 0, 4, .inl tng9)), (tn_10, .inl (k 0, 4, .inl tng10))] H1 := hP
  have hD : va_D A [(ob, .inr (7, [.int obv0, .int obv1, .ref obc, .ref ob_3, .int obv4, .ref ob_5, .ref ob_6])), (tn_12, .inl (k 0, 6, .inl tng12)), (tn_13, .inl (k 0, 6, .inl tng13)), (tn_14, .inl (k 0, 6, .inl tng14)), (obc, .inr (1, [.ref obc_0, .int o_9, .int o_10])), (obc_0, .inl (k 0, 8, .inl o_11)), (tn, .inr (10, [.int tnv0, .int tnv1, .int tnv2, .ref tn_3, .ref tn_4, .ref tn_5, .ref tn_6, .int tnv7, .int tnv8, .ref tn_9, .ref tn_10, .int tnv11, .ref tn_12, .ref tn_13, .ref tn_14, .ref tn_15, .int tnv16, .ref tn_17, .ref tn_18, .ref tnt])), (tn_3, .inl (k 0, 10, .inl tng3)), (tn_4, .inl (k 0, 10, .inl tng4)), (tn_5, .inl (k 0, 10, .inl tng5)), (tn_9, .inl (k 0, 4, .inl tng9)), (tn_10, .inl (k 0, 4, .inl tng10))] := hD
  generalize H1 = H at hP hS ⊢
  have hw_12 : (PR 8 1 0 0 1000000 o_11) := hw
  have hw_13 := hw_12
  clear hw
  refine lv_aload_n hx hb dX7_gladClerked_31 rfl (lv_at hl 1 rfl) ?_
  refine va_get (D := D) (ci := 7) (v := .ref obc) (C := RX7) (T := TX7) (N := 7) hx hb hts iT_X7 hown hK hP 0 rfl rfl 2 (by decide) (hts _ tw_2_68) (fun _ h9 => h9) rfl dX7_gladClerked_32 ?_
  refine lv_aload_n hx hb dX7_gladClerked_35 rfl (lv_at hl 2 rfl) ?_
  obtain ⟨hPc, hDc, hFc⟩ := sub3 hP hD hS hA (ws' := [(obc, .inr (1, [.ref obc_0, .int o_9, .int o_10])), (obc_0, .inl (k 0, 8, .inl o_11)), (tn, .inr (10, [.int tnv0, .int tnv1, .int tnv2, .ref tn_3, .ref tn_4, .ref tn_5, .ref tn_6, .int tnv7, .int tnv8, .ref tn_9, .ref tn_10, .int tnv11, .ref tn_12, .ref tn_13, .ref tn_14, .ref tn_15, .int tnv16, .ref tn_17, .ref tn_18, .ref tnt])), (tn_12, .inl (k 0, 6, .inl tng12)), (tn_13, .inl (k 0, 6, .inl tng13)), (tn_14, .inl (k 0, 6, .inl tng14))]) [4, 5, 6, 1, 2, 3] (by decide +kernel) rfl
  refine va_calli (va_runV (C := RX1) (As := [.ref tn]) (rest := []) ⟨hx, hb, hml, hown, hts⟩ (c_X1_gladOfAll l D k obc tn obc_0 o_9 o_10 o_11 tnv0 tnv1 tnv2 tn_3 tn_4 tn_5 tn_6 tnv7 tnv8 tn_9 tn_10 tnv11 tn_12 tn_13 tn_14 tn_15 tnv16 tn_17 tn_18 tnt tng12 tng13 tng14 H.size hw_13 (show 0 ≤ tnv0.toInt ∧ tnv0.toInt ≤ 8 from by omega) (show 0 ≤ tnv2.toInt ∧ tnv2.toInt ≤ 10 from by omega) (show 0 ≤ tnv8.toInt ∧ tnv8.toInt ≤ 4 from by omega) (show 0 ≤ tnv11.toInt ∧ tnv11.toInt ≤ 6 from by omega) (show 0 ≤ tnv16.toInt ∧ tnv16.toInt ≤ 2 from by omega) hp_tng12_0 hp_tng13_0 hp_tng14_0) (cwV 1 hts (gV tw_4_132 tw_4_87 tw_4_88 tw_1_6 tw_4_89) rfl rfl rfl hdV_X1_gladOfAll ⟨Nat.le_of_ble_eq_true rfl, Nat.le_of_ble_eq_true rfl⟩) (cz_V hK hPc hDc hN (ci := 1) (q0 := 0) rfl rfl [.ref tn]) rfl rfl hl.1 rfl (lv_room (Nat.le_of_ble_eq_true rfl)) dX7_gladClerked_36 ⟨Nat.le_of_ble_eq_true rfl, Nat.le_of_ble_eq_true rfl⟩) hS (fun q _ h => hFc q h) hFc (fun r_14 uZ tZ H1 locs ht hvm hw hB hz1 hk1 hS => ?_)
  obtain ⟨hP1, hK1, hD1⟩ := hB
  rw [ht] at hP1
  obtain ⟨hP, hD⟩ := va_join (wr := [(ob, .inr (7, [.int obv0, .int obv1, .ref obc, .ref ob_3, .int obv4, .ref ob_5, .ref ob_6])), (tn_3, .inl (k 0, 10, .inl tng3)), (tn_4, .inl (k 0, 10, .inl tng4)), (tn_5, .inl (k 0, 10, .inl tng5)), (tn_9, .inl (k 0, 4, .inl tng9)), (tn_10, .inl (k 0, 4, .inl tng10))]) (w1 := [(obc, .inr (1, [.ref obc_0, .int o_9, .int o_10])), (obc_0, .inl (k 0, 8, .inl o_11)), (tn, .inr (10, [.int tnv0, .int tnv1, .int tnv2, .ref tn_3, .ref tn_4, .ref tn_5, .ref tn_6, .int tnv7, .int tnv8, .ref tn_9, .ref tn_10, .int tnv11, .ref tn_12, .ref tn_13, .ref tn_14, .ref tn_15, .int tnv16, .ref tn_17, .ref tn_18, .ref tnt])), (tn_12, .inl (k 0, 6, .inl tng12)), (tn_13, .inl (k 0, 6, .inl tng13)), (tn_14, .inl (k 0, 6, .inl tng14))]) hP hD [4, 5, 6, 1, 2, 3] [0, 7, 8, 9, 10, 11] rfl rfl (by decide +kernel) (by decide +kernel) hk1 hFc hP1 hD1
  clear hK1 hP1 hD1 hPc hDc hFc
  clear hk1 hz1 ht hvm
  have hP : va_P D vwCl [(ob, .inr (7, [.int obv0, .int obv1, .ref obc, .ref ob_3, .int obv4, .ref ob_5, .ref ob_6])), (tn_3, .inl (k 0, 10, .inl tng3)), (tn_4, .inl (k 0, 10, .inl tng4)), (tn_5, .inl (k 0, 10, .inl tng5)), (tn_9, .inl (k 0, 4, .inl tng9)), (tn_10, .inl (k 0, 4, .inl tng10)), (obc, .inr (1, [.ref obc_0, .int o_9, .int o_10])), (obc_0, .inl (k 0, 8, .inl o_11)), (tn, .inr (10, [.int tnv0, .int tnv1, .int tnv2, .ref tn_3, .ref tn_4, .ref tn_5, .ref tn_6, .int tnv7, .int tnv8, .ref tn_9, .ref tn_10, .int tnv11, .ref tn_12, .ref tn_13, .ref tn_14, .ref tn_15, .int tnv16, .ref tn_17, .ref tn_18, .ref tnt])), (tn_12, .inl (k 0, 6, .inl tng12)), (tn_13, .inl (k 0, 6, .inl tng13)), (tn_14, .inl (k 0, 6, .inl tng14))] H1 := hP
  have hD : va_D A [(ob, .inr (7, [.int obv0, .int obv1, .ref obc, .ref ob_3, .int obv4, .ref ob_5, .ref ob_6])), (tn_3, .inl (k 0, 10, .inl tng3)), (tn_4, .inl (k 0, 10, .inl tng4)), (tn_5, .inl (k 0, 10, .inl tng5)), (tn_9, .inl (k 0, 4, .inl tng9)), (tn_10, .inl (k 0, 4, .inl tng10)), (obc, .inr (1, [.ref obc_0, .int o_9, .int o_10])), (obc_0, .inl (k 0, 8, .inl o_11)), (tn, .inr (10, [.int tnv0, .int tnv1, .int tnv2, .ref tn_3, .ref tn_4, .ref tn_5, .ref tn_6, .int tnv7, .int tnv8, .ref tn_9, .ref tn_10, .int tnv11, .ref tn_12, .ref tn_13, .ref tn_14, .ref tn_15, .int tnv16, .ref tn_17, .ref tn_18, .ref tnt])), (tn_12, .inl (k 0, 6, .inl tng12)), (tn_13, .inl (k 0, 6, .inl tng13)), (tn_14, .inl (k 0, 6, .inl tng14))] := hD
  generalize H1 = H at hP hS ⊢
  clear hw
  obtain ⟨hP9, hD9⟩ := sub2 hP hD (ws' := [(ob, .inr (7, [.int obv0, .int obv1, .ref obc, .ref ob_3, .int obv4, .ref ob_5, .ref ob_6])), (obc, .inr (1, [.ref obc_0, .int o_9, .int o_10])), (obc_0, .inl (k 0, 8, .inl o_11)), (tn, .inr (10, [.int tnv0, .int tnv1, .int tnv2, .ref tn_3, .ref tn_4, .ref tn_5, .ref tn_6, .int tnv7, .int tnv8, .ref tn_9, .ref tn_10, .int tnv11, .ref tn_12, .ref tn_13, .ref tn_14, .ref tn_15, .int tnv16, .ref tn_17, .ref tn_18, .ref tnt])), (tn_3, .inl (k 0, 10, .inl tng3)), (tn_4, .inl (k 0, 10, .inl tng4)), (tn_5, .inl (k 0, 10, .inl tng5)), (tn_9, .inl (k 0, 4, .inl tng9)), (tn_10, .inl (k 0, 4, .inl tng10)), (tn_12, .inl (k 0, 6, .inl tng12)), (tn_13, .inl (k 0, 6, .inl tng13)), (tn_14, .inl (k 0, 6, .inl tng14))]) [0, 6, 7, 8, 1, 2, 3, 4, 5, 9, 10, 11] (by decide +kernel) rfl
  exact W.iret (v := r_14) hx hb hr (fun tZ ht hW => ⟨⟨r_14, (o_9, o_10, o_11), rfl, hw_13, by rw [ht]; exact hP9, va_K.moved hW.alike hK, hD9⟩, hS.F ht⟩) hS.2.2 dX7_gladClerked_39
set_option maxHeartbeats 4000000 in
set_option maxRecDepth 100000 in
theorem c_X7_isOpenIn (l : Launch) (D : va_G) (k : Nat → ClassId) (tn : Nat) (p1 : Int32) (tnv0 : Int32) (tnv1 : Int32) (tnv2 : Int32) (tn_3 : Nat) (tn_4 : Nat) (tn_5 : Nat) (tn_6 : Nat) (tnv7 : Int32) (tnv8 : Int32) (tn_9 : Nat) (tn_10 : Nat) (tnv11 : Int32) (tn_12 : Nat) (tn_13 : Nat) (tn_14 : Nat) (tn_15 : Nat) (tnv16 : Int32) (tn_17 : Nat) (tn_18 : Nat) (tnt : Nat) (sz : Nat) (h_tnv0 : 0 ≤ tnv0.toInt ∧ tnv0.toInt ≤ 8) (h_tnv2 : 0 ≤ tnv2.toInt ∧ tnv2.toInt ≤ 10) (h_tnv8 : 0 ≤ tnv8.toInt ∧ tnv8.toInt ≤ 4) (h_tnv11 : 0 ≤ tnv11.toInt ∧ tnv11.toInt ≤ 6) (h_tnv16 : 0 ≤ tnv16.toInt ∧ tnv16.toInt ≤ 2) : Met l yX7_isOpenIn (ww yX7_isOpenIn cX7_isOpenIn 2 (some .boolean)) ({ frames := 1, cells := 0, slots := 0, locals := 20 }) (Pre0 D k [(tn, .inr (10, [.int tnv0, .int tnv1, .int tnv2, .ref tn_3, .ref tn_4, .ref tn_5, .ref tn_6, .int tnv7, .int tnv8, .ref tn_9, .ref tn_10, .int tnv11, .ref tn_12, .ref tn_13, .ref tn_14, .ref tn_15, .int tnv16, .ref tn_17, .ref tn_18, .ref tnt]))] sz [.ref tn, .int p1]) (va_Qi (fun (r : Int32) (_ : Unit) => (0 ≤ r.toInt ∧ r.toInt ≤ 1)) (fun (_ : Unit) tZ => Bw D k (va_A [(tn, .inr (10, [.int tnv0, .int tnv1, .int tnv2, .ref tn_3, .ref tn_4, .ref tn_5, .ref tn_6, .int tnv7, .int tnv8, .ref tn_9, .ref tn_10, .int tnv11, .ref tn_12, .ref tn_13, .ref tn_14, .ref tn_15, .int tnv16, .ref tn_17, .ref tn_18, .ref tnt]))] sz) [(tn, .inr (10, [.int tnv0, .int tnv1, .int tnv2, .ref tn_3, .ref tn_4, .ref tn_5, .ref tn_6, .int tnv7, .int tnv8, .ref tn_9, .ref tn_10, .int tnv11, .ref tn_12, .ref tn_13, .ref tn_14, .ref tn_15, .int tnv16, .ref tn_17, .ref tn_18, .ref tnt]))] tZ) (va_A [(tn, .inr (10, [.int tnv0, .int tnv1, .int tnv2, .ref tn_3, .ref tn_4, .ref tn_5, .ref tn_6, .int tnv7, .int tnv8, .ref tn_9, .ref tn_10, .int tnv11, .ref tn_12, .ref tn_13, .ref tn_14, .ref tn_15, .int tnv16, .ref tn_17, .ref tn_18, .ref tnt]))] sz)) 0 0 (va_A [(tn, .inr (10, [.int tnv0, .int tnv1, .int tnv2, .ref tn_3, .ref tn_4, .ref tn_5, .ref tn_6, .int tnv7, .int tnv8, .ref tn_9, .ref tn_10, .int tnv11, .ref tn_12, .ref tn_13, .ref tn_14, .ref tn_15, .int tnv16, .ref tn_17, .ref tn_18, .ref tnt]))] sz) := by
  refine Met.ofW (cc := cX7_isOpenIn) (maxL := 2) (ret := (some .boolean)) (by decide +kernel) rfl ?_
  intro p e s m args below meth c s₁ B hml hv
  obtain ⟨rfl, hsz, hP, hK, hD0, hN⟩ := hv
  have hx := B.exec
  have hb := B.bytes
  have hr := B.returns
  have hts : ∀ w ∈ TT, w.before _ s = true := fun w h => atoms_spec (ws := ww yX7_isOpenIn cX7_isOpenIn 2 (some .boolean)) B.pre w (List.mem_cons_of_mem _ h)
  have hown : s.vm.findClass RX7 = some m.cls := findClass_of_methodNamed B.named
  have hlocks := B.notSynchronized
  subst hsz
  have hD := hD0.self (sz := s.heap.size)
  generalize hAe : va_A [(tn, .inr (10, [.int tnv0, .int tnv1, .int tnv2, .ref tn_3, .ref tn_4, .ref tn_5, .ref tn_6, .int tnv7, .int tnv8, .ref tn_9, .ref tn_10, .int tnv11, .ref tn_12, .ref tn_13, .ref tn_14, .ref tn_15, .int tnv16, .ref tn_17, .ref tn_18, .ref tnt]))] s.heap.size = A at hD ⊢
  have hA : ∀ q : Nat, s.heap.size ≤ q → A q := fun q h => by rw [← hAe]; exact Or.inr h
  have hS : va_S A s.heap s.heap [] := va_S.rf
  have hl := lv_entry ([.ref tn, .int p1]) (n := 2) (Nat.le_of_ble_eq_true rfl)
  rw [lg_entry_eq]
  generalize (lg_sl ([.ref tn, .int p1]) ++ List.replicate (2 - (lg_sl ([.ref tn, .int p1])).length) Slot.unset).toArray = ls at hl ⊢
  have hl : lv_has ls 2 [(0, .ref tn), (1, .int p1)] := hl
  refine lv_aload_n hx hb dX7_isOpenIn_0 rfl (lv_at hl 0 rfl) ?_
  obtain ⟨hPc, hDc, hFc⟩ := sub3 hP hD hS hA (ws' := [(tn, .inr (10, [.int tnv0, .int tnv1, .int tnv2, .ref tn_3, .ref tn_4, .ref tn_5, .ref tn_6, .int tnv7, .int tnv8, .ref tn_9, .ref tn_10, .int tnv11, .ref tn_12, .ref tn_13, .ref tn_14, .ref tn_15, .int tnv16, .ref tn_17, .ref tn_18, .ref tnt]))]) [0] (by decide +kernel) rfl
  refine va_calli (va_runV (C := RX10) (As := []) (rest := []) ⟨hx, hb, hml, hown, hts⟩ (c_X10_openLanes l D k tn tnv0 tnv1 tnv2 tn_3 tn_4 tn_5 tn_6 tnv7 tnv8 tn_9 tn_10 tnv11 tn_12 tn_13 tn_14 tn_15 tnv16 tn_17 tn_18 tnt s.heap.size (show 0 ≤ tnv0.toInt ∧ tnv0.toInt ≤ 8 from by omega) (show 0 ≤ tnv2.toInt ∧ tnv2.toInt ≤ 10 from by omega) (show 0 ≤ tnv8.toInt ∧ tnv8.toInt ≤ 4 from by omega) (show 0 ≤ tnv11.toInt ∧ tnv11.toInt ≤ 6 from by omega) (show 0 ≤ tnv16.toInt ∧ tnv16.toInt ≤ 2 from by omega)) (cwV 0 hts (gV tw_4_130 tw_3_180 tw_3_181 tw_1_3 tw_3_182) rfl rfl rfl hdV_X10_openLanes ⟨Nat.le_of_ble_eq_true rfl, Nat.le_of_ble_eq_true rfl⟩) (cz_V hK hPc hDc hN (ci := 10) (q0 := 0) rfl rfl []) rfl rfl hl.1 rfl (lv_room (Nat.le_of_ble_eq_true rfl)) dX7_isOpenIn_1 ⟨Nat.le_of_ble_eq_true rfl, Nat.le_of_ble_eq_true rfl⟩) hS (fun q _ h => hFc q h) hFc (fun r_1 uZ tZ H1 locs ht hvm hw hB hz1 hk1 hS => ?_)
  obtain ⟨hP1, hK1, hD1⟩ := hB
  rw [ht] at hP1
  obtain ⟨hP, hD⟩ := va_join (wr := []) (w1 := [(tn, .inr (10, [.int tnv0, .int tnv1, .int tnv2, .ref tn_3, .ref tn_4, .ref tn_5, .ref tn_6, .int tnv7, .int tnv8, .ref tn_9, .ref tn_10, .int tnv11, .ref tn_12, .ref tn_13, .ref tn_14, .ref tn_15, .int tnv16, .ref tn_17, .ref tn_18, .ref tnt]))]) hP hD [0] [] rfl rfl (by decide +kernel) (by decide +kernel) hk1 hFc hP1 hD1
  clear hK1 hP1 hD1 hPc hDc hFc
  clear hk1 hz1 ht hvm
  have hP : va_P D vwCl [(tn, .inr (10, [.int tnv0, .int tnv1, .int tnv2, .ref tn_3, .ref tn_4, .ref tn_5, .ref tn_6, .int tnv7, .int tnv8, .ref tn_9, .ref tn_10, .int tnv11, .ref tn_12, .ref tn_13, .ref tn_14, .ref tn_15, .int tnv16, .ref tn_17, .ref tn_18, .ref tnt]))] H1 := hP
  have hD : va_D A [(tn, .inr (10, [.int tnv0, .int tnv1, .int tnv2, .ref tn_3, .ref tn_4, .ref tn_5, .ref tn_6, .int tnv7, .int tnv8, .ref tn_9, .ref tn_10, .int tnv11, .ref tn_12, .ref tn_13, .ref tn_14, .ref tn_15, .int tnv16, .ref tn_17, .ref tn_18, .ref tnt]))] := hD
  generalize H1 = H at hP hS ⊢
  have hw_2 : (0 ≤ r_1.toInt ∧ r_1.toInt ≤ 1023) := hw
  have hw_3 := hw_2
  clear hw
  refine lv_iload_n hx hb dX7_isOpenIn_4 rfl (lv_at hl 1 rfl) ?_
  refine lv_ishr hx hb dX7_isOpenIn_5 ?_
  refine lv_topi (fun x_4 ex_4 => ?_)
  have zrp1 := z_rng p1
  refine lv_iconst (v := 1) hx hb dX7_isOpenIn_6 (by decide) ?_
  refine lv_iand hx hb dX7_isOpenIn_7 ?_
  refine lv_topi (fun x_5 ex_5 => ?_)
  have zrx_4 := z_rng x_4
  have zx_5 : 0 ≤ x_5.toInt ∧ x_5.toInt < 2 := by rw [ex_5]; exact z_and _ 1 2 rfl rfl (by decide)
  refine lv_iconst (v := 1) hx hb dX7_isOpenIn_8 (by decide) ?_
  refine lv_icmp_ne (tgt := 16) hx hb dX7_isOpenIn_9 (by decide) (fun h_6 => ?_) (fun h_6 => ?_)
  · skip
    have zh_6 : ¬ x_5.toInt = 1 := z_ne h_6
    refine lv_iconst (v := 0) hx hb dX7_isOpenIn_16 (by decide) ?_
    obtain ⟨hP9, hD9⟩ := sub2 hP hD (ws' := [(tn, .inr (10, [.int tnv0, .int tnv1, .int tnv2, .ref tn_3, .ref tn_4, .ref tn_5, .ref tn_6, .int tnv7, .int tnv8, .ref tn_9, .ref tn_10, .int tnv11, .ref tn_12, .ref tn_13, .ref tn_14, .ref tn_15, .int tnv16, .ref tn_17, .ref tn_18, .ref tnt]))]) [0] (by decide +kernel) rfl
    exact W.zret (v := 0) hx hb hr (by decide) (fun tZ ht hW => ⟨⟨0, (), rfl, (show 0 ≤ 0 ∧ 0 ≤ 1 from by omega), by rw [ht]; exact hP9, va_K.moved hW.alike hK, hD9⟩, hS.F ht⟩) hS.2.2 dX7_isOpenIn_17
  · skip
    have zh_6 : x_5.toInt = 1 := z_eq h_6
    refine lv_iconst (v := 1) hx hb dX7_isOpenIn_12 (by decide) ?_
    refine lv_goto (tgt := 17) hx hb dX7_isOpenIn_13 (by decide) ?_
    obtain ⟨hP9, hD9⟩ := sub2 hP hD (ws' := [(tn, .inr (10, [.int tnv0, .int tnv1, .int tnv2, .ref tn_3, .ref tn_4, .ref tn_5, .ref tn_6, .int tnv7, .int tnv8, .ref tn_9, .ref tn_10, .int tnv11, .ref tn_12, .ref tn_13, .ref tn_14, .ref tn_15, .int tnv16, .ref tn_17, .ref tn_18, .ref tnt]))]) [0] (by decide +kernel) rfl
    exact W.zret (v := 1) hx hb hr (by decide) (fun tZ ht hW => ⟨⟨1, (), rfl, (show 0 ≤ 1 ∧ 1 ≤ 1 from by omega), by rw [ht]; exact hP9, va_K.moved hW.alike hK, hD9⟩, hS.F ht⟩) hS.2.2 dX7_isOpenIn_17
