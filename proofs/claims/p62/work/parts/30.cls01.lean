set_option maxHeartbeats 4000000 in
set_option maxRecDepth 100000 in
theorem c_X3_weighLanes_0 (l : Launch) (D : va_G) (k : Nat → ClassId) (ob : Nat) (tn : Nat) (p1 : Int32) (p2 : Int32) (p3 : Int32) (p4 : Int64) (oba : Nat) (ob_1 : Nat) (oba_0 : Nat) (obav1 : Int32) (obav2 : Int32) (obag0 : Nat → Int32) (obg1 : Nat → Int64) (tnv0 : Int32) (tnv1 : Int32) (tnv2 : Int32) (tn_3 : Nat) (tn_4 : Nat) (tn_5 : Nat) (tn_6 : Nat) (tnv7 : Int32) (tnv8 : Int32) (tn_9 : Nat) (tn_10 : Nat) (tnv11 : Int32) (tn_12 : Nat) (tn_13 : Nat) (tn_14 : Nat) (tn_15 : Nat) (tnv16 : Int32) (tn_17 : Nat) (tn_18 : Nat) (tnt : Nat) (tng3 : Nat → Int32) (tng4 : Nat → Int32) (tng5 : Nat → Int32) (tng9 : Nat → Int32) (tng10 : Nat → Int32) (sz : Nat) (h_p1 : 0 ≤ p1.toInt ∧ p1.toInt ≤ 7) (hp_obag0_0 : PR 8 1 0 0 1000000 obag0) (h_tnv0 : 0 ≤ tnv0.toInt ∧ tnv0.toInt ≤ 8) (h_tnv2 : 0 ≤ tnv2.toInt ∧ tnv2.toInt ≤ 10) (h_tnv8 : 0 ≤ tnv8.toInt ∧ tnv8.toInt ≤ 4) (h_tnv11 : 0 ≤ tnv11.toInt ∧ tnv11.toInt ≤ 6) (h_tnv16 : 0 ≤ tnv16.toInt ∧ tnv16.toInt ≤ 2) (hp_tng3_0 : PR 10 1 0 0 7 tng3) (hp_tng4_0 : PR 10 1 0 0 7 tng4) (hp_tng5_0 : PR 10 1 0 0 60 tng5) (hp_tng9_0 : PR 4 1 0 0 7 tng9) (hp_tng10_0 : PR 4 1 0 0 99 tng10) : Met l yX3_weighLanes (ww yX3_weighLanes cX3_weighLanes 14 none) ({ frames := 4, cells := 0, slots := 0, locals := 100 }) (Pre0 D k [(ob, .inr (3, [.ref oba, .ref ob_1])), (oba, .inr (1, [.ref oba_0, .int obav1, .int obav2])), (oba_0, .inl (k 0, 8, .inl obag0)), (ob_1, .inl (k 2, 1000, .inr (.inl obg1))), (tn, .inr (10, [.int tnv0, .int tnv1, .int tnv2, .ref tn_3, .ref tn_4, .ref tn_5, .ref tn_6, .int tnv7, .int tnv8, .ref tn_9, .ref tn_10, .int tnv11, .ref tn_12, .ref tn_13, .ref tn_14, .ref tn_15, .int tnv16, .ref tn_17, .ref tn_18, .ref tnt])), (tn_3, .inl (k 0, 10, .inl tng3)), (tn_4, .inl (k 0, 10, .inl tng4)), (tn_5, .inl (k 0, 10, .inl tng5)), (tn_9, .inl (k 0, 4, .inl tng9)), (tn_10, .inl (k 0, 4, .inl tng10))] sz [.ref ob, .ref tn, .int p1, .int p2, .int p3, .long p4, .int 10]) (va_Qv (fun (u : Int32 × Int32 × (Nat → Int32) × (Nat → Int64)) => match u with | (obav1z, obav2z, obag0z, obg1z) => (PR 8 1 0 0 1000000 obag0z)) (fun (u : Int32 × Int32 × (Nat → Int32) × (Nat → Int64)) tZ => match u with | (obav1z, obav2z, obag0z, obg1z) => Bw D k (va_A [(ob, .inr (3, [.ref oba, .ref ob_1])), (oba, .inr (1, [.ref oba_0, .int obav1, .int obav2])), (oba_0, .inl (k 0, 8, .inl obag0)), (ob_1, .inl (k 2, 1000, .inr (.inl obg1))), (tn, .inr (10, [.int tnv0, .int tnv1, .int tnv2, .ref tn_3, .ref tn_4, .ref tn_5, .ref tn_6, .int tnv7, .int tnv8, .ref tn_9, .ref tn_10, .int tnv11, .ref tn_12, .ref tn_13, .ref tn_14, .ref tn_15, .int tnv16, .ref tn_17, .ref tn_18, .ref tnt])), (tn_3, .inl (k 0, 10, .inl tng3)), (tn_4, .inl (k 0, 10, .inl tng4)), (tn_5, .inl (k 0, 10, .inl tng5)), (tn_9, .inl (k 0, 4, .inl tng9)), (tn_10, .inl (k 0, 4, .inl tng10))] sz) [(ob, .inr (3, [.ref oba, .ref ob_1])), (oba, .inr (1, [.ref oba_0, .int obav1z, .int obav2z])), (oba_0, .inl (k 0, 8, .inl obag0z)), (ob_1, .inl (k 2, 1000, .inr (.inl obg1z))), (tn, .inr (10, [.int tnv0, .int tnv1, .int tnv2, .ref tn_3, .ref tn_4, .ref tn_5, .ref tn_6, .int tnv7, .int tnv8, .ref tn_9, .ref tn_10, .int tnv11, .ref tn_12, .ref tn_13, .ref tn_14, .ref tn_15, .int tnv16, .ref tn_17, .ref tn_18, .ref tnt])), (tn_3, .inl (k 0, 10, .inl tng3)), (tn_4, .inl (k 0, 10, .inl tng4)), (tn_5, .inl (k 0, 10, .inl tng5)), (tn_9, .inl (k 0, 4, .inl tng9)), (tn_10, .inl (k 0, 4, .inl tng10))] tZ) (va_A [(ob, .inr (3, [.ref oba, .ref ob_1])), (oba, .inr (1, [.ref oba_0, .int obav1, .int obav2])), (oba_0, .inl (k 0, 8, .inl obag0)), (ob_1, .inl (k 2, 1000, .inr (.inl obg1))), (tn, .inr (10, [.int tnv0, .int tnv1, .int tnv2, .ref tn_3, .ref tn_4, .ref tn_5, .ref tn_6, .int tnv7, .int tnv8, .ref tn_9, .ref tn_10, .int tnv11, .ref tn_12, .ref tn_13, .ref tn_14, .ref tn_15, .int tnv16, .ref tn_17, .ref tn_18, .ref tnt])), (tn_3, .inl (k 0, 10, .inl tng3)), (tn_4, .inl (k 0, 10, .inl tng4)), (tn_5, .inl (k 0, 10, .inl tng5)), (tn_9, .inl (k 0, 4, .inl tng9)), (tn_10, .inl (k 0, 4, .inl tng10))] sz)) 0 0 (va_A [(ob, .inr (3, [.ref oba, .ref ob_1])), (oba, .inr (1, [.ref oba_0, .int obav1, .int obav2])), (oba_0, .inl (k 0, 8, .inl obag0)), (ob_1, .inl (k 2, 1000, .inr (.inl obg1))), (tn, .inr (10, [.int tnv0, .int tnv1, .int tnv2, .ref tn_3, .ref tn_4, .ref tn_5, .ref tn_6, .int tnv7, .int tnv8, .ref tn_9, .ref tn_10, .int tnv11, .ref tn_12, .ref tn_13, .ref tn_14, .ref tn_15, .int tnv16, .ref tn_17, .ref tn_18, .ref tnt])), (tn_3, .inl (k 0, 10, .inl tng3)), (tn_4, .inl (k 0, 10, .inl tng4)), (tn_5, .inl (k 0, 10, .inl tng5)), (tn_9, .inl (k 0, 4, .inl tng9)), (tn_10, .inl (k 0, 4, .inl tng10))] sz) := by
  refine Met.ofW (cc := cX3_weighLanes) (maxL := 14) (ret := none) (by decide +kernel) rfl ?_
  intro p e s m args below meth c s₁ B hml hv
  obtain ⟨rfl, hsz, hP, hK, hD0, hN⟩ := hv
  have hx := B.exec
  have hb := B.bytes
  have hr := B.returns
  have hts : ∀ w ∈ TT, w.before _ s = true := fun w h => atoms_spec (ws := ww yX3_weighLanes cX3_weighLanes 14 none) B.pre w (List.mem_cons_of_mem _ h)
  have hown : s.vm.findClass RX3 = some m.cls := findClass_of_methodNamed B.named
  have hlocks := B.notSynchronized
  subst hsz
  have hD := hD0.self (sz := s.heap.size)
  generalize hAe : va_A [(ob, .inr (3, [.ref oba, .ref ob_1])), (oba, .inr (1, [.ref oba_0, .int obav1, .int obav2])), (oba_0, .inl (k 0, 8, .inl obag0)), (ob_1, .inl (k 2, 1000, .inr (.inl obg1))), (tn, .inr (10, [.int tnv0, .int tnv1, .int tnv2, .ref tn_3, .ref tn_4, .ref tn_5, .ref tn_6, .int tnv7, .int tnv8, .ref tn_9, .ref tn_10, .int tnv11, .ref tn_12, .ref tn_13, .ref tn_14, .ref tn_15, .int tnv16, .ref tn_17, .ref tn_18, .ref tnt])), (tn_3, .inl (k 0, 10, .inl tng3)), (tn_4, .inl (k 0, 10, .inl tng4)), (tn_5, .inl (k 0, 10, .inl tng5)), (tn_9, .inl (k 0, 4, .inl tng9)), (tn_10, .inl (k 0, 4, .inl tng10))] s.heap.size = A at hD ⊢
  have hA : ∀ q : Nat, s.heap.size ≤ q → A q := fun q h => by rw [← hAe]; exact Or.inr h
  have hS : va_S A s.heap s.heap [] := va_S.rf
  have hl := lv_entry ([.ref ob, .ref tn, .int p1, .int p2, .int p3, .long p4, .int 10]) (n := 14) (Nat.le_of_ble_eq_true rfl)
  rw [lg_entry_eq]
  generalize (lg_sl ([.ref ob, .ref tn, .int p1, .int p2, .int p3, .long p4, .int 10]) ++ List.replicate (14 - (lg_sl ([.ref ob, .ref tn, .int p1, .int p2, .int p3, .long p4, .int 10])).length) Slot.unset).toArray = ls at hl ⊢
  have hl : lv_has ls 14 [(0, .ref ob), (1, .ref tn), (2, .int p1), (3, .int p2), (4, .int p3), (5, .long p4), (7, .int 10)] := hl
  refine lv_aload_n hx hb dX3_weighLanes_0 rfl (lv_at hl 0 rfl) ?_
  refine va_get (D := D) (ci := 3) (v := .ref oba) (C := RX3) (T := TX3) (N := 2) hx hb hts iT_X3 hown hK hP 0 rfl rfl 0 (by decide) (hts _ tw_2_163) (fun _ h9 => h9) rfl dX3_weighLanes_1 ?_
  refine lv_aload_n hx hb dX3_weighLanes_4 rfl (lv_at hl 1 rfl) ?_
  refine lv_aload_n hx hb dX3_weighLanes_5 rfl (lv_at hl 1 rfl) ?_
  obtain ⟨hPc, hDc, hFc⟩ := sub3 hP hD hS hA (ws' := [(tn, .inr (10, [.int tnv0, .int tnv1, .int tnv2, .ref tn_3, .ref tn_4, .ref tn_5, .ref tn_6, .int tnv7, .int tnv8, .ref tn_9, .ref tn_10, .int tnv11, .ref tn_12, .ref tn_13, .ref tn_14, .ref tn_15, .int tnv16, .ref tn_17, .ref tn_18, .ref tnt]))]) [4] (by decide +kernel) rfl
  refine va_calli (va_runV (C := RX10) (As := []) (rest := [.ref tn, .ref oba]) ⟨hx, hb, hml, hown, hts⟩ (c_X10_openLanes l D k tn tnv0 tnv1 tnv2 tn_3 tn_4 tn_5 tn_6 tnv7 tnv8 tn_9 tn_10 tnv11 tn_12 tn_13 tn_14 tn_15 tnv16 tn_17 tn_18 tnt s.heap.size (show 0 ≤ tnv0.toInt ∧ tnv0.toInt ≤ 8 from by omega) (show 0 ≤ tnv2.toInt ∧ tnv2.toInt ≤ 10 from by omega) (show 0 ≤ tnv8.toInt ∧ tnv8.toInt ≤ 4 from by omega) (show 0 ≤ tnv11.toInt ∧ tnv11.toInt ≤ 6 from by omega) (show 0 ≤ tnv16.toInt ∧ tnv16.toInt ≤ 2 from by omega)) (cwV 0 hts (gV tw_5_155 tw_3_180 tw_3_181 tw_1_3 tw_3_182) rfl rfl rfl hdV_X10_openLanes ⟨Nat.le_of_ble_eq_true rfl, Nat.le_of_ble_eq_true rfl⟩) (cz_V hK hPc hDc hN (ci := 10) (q0 := 0) rfl rfl []) rfl rfl hl.1 rfl (lv_room (Nat.le_of_ble_eq_true rfl)) dX3_weighLanes_6 ⟨Nat.le_of_ble_eq_true rfl, Nat.le_of_ble_eq_true rfl⟩) hS (fun q _ h => hFc q h) hFc (fun r_1 uZ tZ H1 locs ht hvm hw hB hz1 hk1 hS => ?_)
  obtain ⟨hP1, hK1, hD1⟩ := hB
  rw [ht] at hP1
  obtain ⟨hP, hD⟩ := va_join (wr := [(ob, .inr (3, [.ref oba, .ref ob_1])), (oba, .inr (1, [.ref oba_0, .int obav1, .int obav2])), (oba_0, .inl (k 0, 8, .inl obag0)), (ob_1, .inl (k 2, 1000, .inr (.inl obg1))), (tn_3, .inl (k 0, 10, .inl tng3)), (tn_4, .inl (k 0, 10, .inl tng4)), (tn_5, .inl (k 0, 10, .inl tng5)), (tn_9, .inl (k 0, 4, .inl tng9)), (tn_10, .inl (k 0, 4, .inl tng10))]) (w1 := [(tn, .inr (10, [.int tnv0, .int tnv1, .int tnv2, .ref tn_3, .ref tn_4, .ref tn_5, .ref tn_6, .int tnv7, .int tnv8, .ref tn_9, .ref tn_10, .int tnv11, .ref tn_12, .ref tn_13, .ref tn_14, .ref tn_15, .int tnv16, .ref tn_17, .ref tn_18, .ref tnt]))]) hP hD [4] [0, 1, 2, 3, 5, 6, 7, 8, 9] rfl rfl (by decide +kernel) (by decide +kernel) hk1 hFc hP1 hD1
  clear hK1 hP1 hD1 hPc hDc hFc
  clear hk1 hz1 ht hvm
  have hP : va_P D vwCl [(ob, .inr (3, [.ref oba, .ref ob_1])), (oba, .inr (1, [.ref oba_0, .int obav1, .int obav2])), (oba_0, .inl (k 0, 8, .inl obag0)), (ob_1, .inl (k 2, 1000, .inr (.inl obg1))), (tn_3, .inl (k 0, 10, .inl tng3)), (tn_4, .inl (k 0, 10, .inl tng4)), (tn_5, .inl (k 0, 10, .inl tng5)), (tn_9, .inl (k 0, 4, .inl tng9)), (tn_10, .inl (k 0, 4, .inl tng10)), (tn, .inr (10, [.int tnv0, .int tnv1, .int tnv2, .ref tn_3, .ref tn_4, .ref tn_5, .ref tn_6, .int tnv7, .int tnv8, .ref tn_9, .ref tn_10, .int tnv11, .ref tn_12, .ref tn_13, .ref tn_14, .ref tn_15, .int tnv16, .ref tn_17, .ref tn_18, .ref tnt]))] H1 := hP
  have hD : va_D A [(ob, .inr (3, [.ref oba, .ref ob_1])), (oba, .inr (1, [.ref oba_0, .int obav1, .int obav2])), (oba_0, .inl (k 0, 8, .inl obag0)), (ob_1, .inl (k 2, 1000, .inr (.inl obg1))), (tn_3, .inl (k 0, 10, .inl tng3)), (tn_4, .inl (k 0, 10, .inl tng4)), (tn_5, .inl (k 0, 10, .inl tng5)), (tn_9, .inl (k 0, 4, .inl tng9)), (tn_10, .inl (k 0, 4, .inl tng10)), (tn, .inr (10, [.int tnv0, .int tnv1, .int tnv2, .ref tn_3, .ref tn_4, .ref tn_5, .ref tn_6, .int tnv7, .int tnv8, .ref tn_9, .ref tn_10, .int tnv11, .ref tn_12, .ref tn_13, .ref tn_14, .ref tn_15, .int tnv16, .ref tn_17, .ref tn_18, .ref tnt]))] := hD
  generalize H1 = H at hP hS ⊢
  have hw_2 : (0 ≤ r_1.toInt ∧ r_1.toInt ≤ 1023) := hw
  have hw_3 := hw_2
  clear hw
  refine lv_iload hx hb dX3_weighLanes_9 (lv_at hl 4 rfl) ?_
  obtain ⟨hPc, hDc, hFc⟩ := sub3 hP hD hS hA (ws' := [(oba, .inr (1, [.ref oba_0, .int obav1, .int obav2])), (oba_0, .inl (k 0, 8, .inl obag0)), (tn, .inr (10, [.int tnv0, .int tnv1, .int tnv2, .ref tn_3, .ref tn_4, .ref tn_5, .ref tn_6, .int tnv7, .int tnv8, .ref tn_9, .ref tn_10, .int tnv11, .ref tn_12, .ref tn_13, .ref tn_14, .ref tn_15, .int tnv16, .ref tn_17, .ref tn_18, .ref tnt])), (tn_3, .inl (k 0, 10, .inl tng3)), (tn_4, .inl (k 0, 10, .inl tng4)), (tn_5, .inl (k 0, 10, .inl tng5)), (tn_9, .inl (k 0, 4, .inl tng9)), (tn_10, .inl (k 0, 4, .inl tng10))]) [1, 2, 9, 4, 5, 6, 7, 8] (by decide +kernel) rfl
  refine va_callv (va_runV (C := RX1) (As := [.ref tn, .int r_1, .int p3]) (rest := []) ⟨hx, hb, hml, hown, hts⟩ (c_X1_fall l D k oba tn r_1 p3 oba_0 obav1 obav2 obag0 tnv0 tnv1 tnv2 tn_3 tn_4 tn_5 tn_6 tnv7 tnv8 tn_9 tn_10 tnv11 tn_12 tn_13 tn_14 tn_15 tnv16 tn_17 tn_18 tnt tng3 tng4 tng5 tng9 tng10 H.size hp_obag0_0 (show 0 ≤ tnv0.toInt ∧ tnv0.toInt ≤ 8 from by omega) (show 0 ≤ tnv2.toInt ∧ tnv2.toInt ≤ 10 from by omega) (show 0 ≤ tnv8.toInt ∧ tnv8.toInt ≤ 4 from by omega) (show 0 ≤ tnv11.toInt ∧ tnv11.toInt ≤ 6 from by omega) (show 0 ≤ tnv16.toInt ∧ tnv16.toInt ≤ 2 from by omega) hp_tng3_0 hp_tng4_0 hp_tng5_0 hp_tng9_0 hp_tng10_0) (cwV 3 hts (gV tw_5_156 tw_3_184 tw_3_185 tw_1_6 tw_3_186) rfl rfl rfl hdV_X1_fall ⟨Nat.le_of_ble_eq_true rfl, Nat.le_of_ble_eq_true rfl⟩) (cz_V hK hPc hDc hN (ci := 1) (q0 := 0) rfl rfl [.ref tn, .int r_1, .int p3]) rfl rfl hl.1 rfl (lv_room (Nat.le_of_ble_eq_true rfl)) dX3_weighLanes_11 ⟨Nat.le_of_ble_eq_true rfl, Nat.le_of_ble_eq_true rfl⟩) hS (fun q _ h => hFc q h) hFc (fun uZ tZ H1 locs ht hvm hw hB hz1 hk1 hS => ?_)
  obtain ⟨o_5, o_6, o_7⟩ := uZ
  obtain ⟨hP1, hK1, hD1⟩ := hB
  rw [ht] at hP1
  obtain ⟨hP, hD⟩ := va_join (wr := [(ob, .inr (3, [.ref oba, .ref ob_1])), (ob_1, .inl (k 2, 1000, .inr (.inl obg1)))]) (w1 := [(oba, .inr (1, [.ref oba_0, .int o_5, .int o_6])), (oba_0, .inl (k 0, 8, .inl o_7)), (tn, .inr (10, [.int tnv0, .int tnv1, .int tnv2, .ref tn_3, .ref tn_4, .ref tn_5, .ref tn_6, .int tnv7, .int tnv8, .ref tn_9, .ref tn_10, .int tnv11, .ref tn_12, .ref tn_13, .ref tn_14, .ref tn_15, .int tnv16, .ref tn_17, .ref tn_18, .ref tnt])), (tn_3, .inl (k 0, 10, .inl tng3)), (tn_4, .inl (k 0, 10, .inl tng4)), (tn_5, .inl (k 0, 10, .inl tng5)), (tn_9, .inl (k 0, 4, .inl tng9)), (tn_10, .inl (k 0, 4, .inl tng10))]) hP hD [1, 2, 9, 4, 5, 6, 7, 8] [0, 3] rfl rfl (by decide +kernel) (by decide +kernel) hk1 hFc hP1 hD1
  clear hK1 hP1 hD1 hPc hDc hFc
  clear hk1 hz1 ht hvm
  have hP : va_P D vwCl [(ob, .inr (3, [.ref oba, .ref ob_1])), (ob_1, .inl (k 2, 1000, .inr (.inl obg1))), (oba, .inr (1, [.ref oba_0, .int o_5, .int o_6])), (oba_0, .inl (k 0, 8, .inl o_7)), (tn, .inr (10, [.int tnv0, .int tnv1, .int tnv2, .ref tn_3, .ref tn_4, .ref tn_5, .ref tn_6, .int tnv7, .int tnv8, .ref tn_9, .ref tn_10, .int tnv11, .ref tn_12, .ref tn_13, .ref tn_14, .ref tn_15, .int tnv16, .ref tn_17, .ref tn_18, .ref tnt])), (tn_3, .inl (k 0, 10, .inl tng3)), (tn_4, .inl (k 0, 10, .inl tng4)), (tn_5, .inl (k 0, 10, .inl tng5)), (tn_9, .inl (k 0, 4, .inl tng9)), (tn_10, .inl (k 0, 4, .inl tng10))] H1 := hP
  have hD : va_D A [(ob, .inr (3, [.ref oba, .ref ob_1])), (ob_1, .inl (k 2, 1000, .inr (.inl obg1))), (oba, .inr (1, [.ref oba_0, .int o_5, .int o_6])), (oba_0, .inl (k 0, 8, .inl o_7)), (tn, .inr (10, [.int tnv0, .int tnv1, .int tnv2, .ref tn_3, .ref tn_4, .ref tn_5, .ref tn_6, .int tnv7, .int tnv8, .ref tn_9, .ref tn_10, .int tnv11, .ref tn_12, .ref tn_13, .ref tn_14, .ref tn_15, .int tnv16, .ref tn_17, .ref tn_18, .ref tnt])), (tn_3, .inl (k 0, 10, .inl tng3)), (tn_4, .inl (k 0, 10, .inl tng4)), (tn_5, .inl (k 0, 10, .inl tng5)), (tn_9, .inl (k 0, 4, .inl tng9)), (tn_10, .inl (k 0, 4, .inl tng10))] := hD
  generalize H1 = H at hP hS ⊢
  have hw_8 : (PR 8 1 0 0 1000000 o_7) := hw
  have hw_9 := hw_8
  clear hw
  refine lv_aload_n hx hb dX3_weighLanes_14 rfl (lv_at hl 0 rfl) ?_
  refine va_get (D := D) (ci := 3) (v := .ref oba) (C := RX3) (T := TX3) (N := 2) hx hb hts iT_X3 hown hK hP 0 rfl rfl 0 (by decide) (hts _ tw_2_163) (fun _ h9 => h9) rfl dX3_weighLanes_15 ?_
  refine va_get (D := D) (ci := 1) (v := .ref oba_0) (C := RX1) (T := TX1) (N := 3) hx hb hts iT_X1 hown hK hP 2 rfl rfl 0 (by decide) (hts _ tw_2_21) (fun _ h9 => h9) rfl dX3_weighLanes_18 ?_
  refine lv_iload_n hx hb dX3_weighLanes_21 rfl (lv_at hl 2 rfl) ?_
  refine va_iald hx hb hK hP 3 0 rfl rfl (z_in (by omega) (by omega)) dX3_weighLanes_22 ?_
  refine lv_topi (fun x_10 ex_10 => ?_)
  have zx_10r0 : 0 ≤ x_10.toInt ∧ x_10.toInt ≤ 1000000 := by rw [ex_10]; exact PR.ld hw_9 (by omega) (by omega) (by omega)
  refine lv_istore (lv' := [(8, .int x_10), (0, .ref ob), (1, .ref tn), (2, .int p1), (3, .int p2), (4, .int p3), (5, .long p4), (7, .int 10)]) hx hb dX3_weighLanes_23 hl (by decide) rfl (fun ls hl => ?_)
  refine lv_iload hx hb dX3_weighLanes_25 (lv_at hl 0 rfl) ?_
  refine lv_sipush (v := 1000) hx hb dX3_weighLanes_27 (by decide) ?_
  refine lv_icmp_lt (tgt := 34) hx hb dX3_weighLanes_30 (by decide) (fun h_11 => ?_) (fun h_11 => ?_)
  · skip
    have zh_11 : x_10.toInt < 1000 := z_lt h_11
    refine lv_aload_n hx hb dX3_weighLanes_34 rfl (lv_at hl 1 rfl) ?_
    refine va_get (D := D) (ci := 3) (v := .ref oba) (C := RX3) (T := TX3) (N := 2) hx hb hts iT_X3 hown hK hP 0 rfl rfl 0 (by decide) (hts _ tw_2_163) (fun _ h9 => h9) rfl dX3_weighLanes_35 ?_
    refine lv_aload_n hx hb dX3_weighLanes_38 rfl (lv_at hl 2 rfl) ?_
    refine lv_iload_n hx hb dX3_weighLanes_39 rfl (lv_at hl 3 rfl) ?_
    obtain ⟨hPc, hDc, hFc⟩ := sub3 hP hD hS hA (ws' := [(oba, .inr (1, [.ref oba_0, .int o_5, .int o_6])), (oba_0, .inl (k 0, 8, .inl o_7)), (tn, .inr (10, [.int tnv0, .int tnv1, .int tnv2, .ref tn_3, .ref tn_4, .ref tn_5, .ref tn_6, .int tnv7, .int tnv8, .ref tn_9, .ref tn_10, .int tnv11, .ref tn_12, .ref tn_13, .ref tn_14, .ref tn_15, .int tnv16, .ref tn_17, .ref tn_18, .ref tnt])), (tn_3, .inl (k 0, 10, .inl tng3)), (tn_4, .inl (k 0, 10, .inl tng4)), (tn_5, .inl (k 0, 10, .inl tng5)), (tn_9, .inl (k 0, 4, .inl tng9)), (tn_10, .inl (k 0, 4, .inl tng10))]) [2, 3, 4, 5, 6, 7, 8, 9] (by decide +kernel) rfl
    refine va_calli (va_runV (C := RX1) (As := [.ref tn, .int p1]) (rest := []) ⟨hx, hb, hml, hown, hts⟩ (c_X1_wayTo l D k oba tn p1 oba_0 o_5 o_6 o_7 tnv0 tnv1 tnv2 tn_3 tn_4 tn_5 tn_6 tnv7 tnv8 tn_9 tn_10 tnv11 tn_12 tn_13 tn_14 tn_15 tnv16 tn_17 tn_18 tnt tng3 tng4 tng5 tng9 tng10 H.size (show 0 ≤ p1.toInt ∧ p1.toInt ≤ 7 from by omega) hw_9 (show 0 ≤ tnv0.toInt ∧ tnv0.toInt ≤ 8 from by omega) (show 0 ≤ tnv2.toInt ∧ tnv2.toInt ≤ 10 from by omega) (show 0 ≤ tnv8.toInt ∧ tnv8.toInt ≤ 4 from by omega) (show 0 ≤ tnv11.toInt ∧ tnv11.toInt ≤ 6 from by omega) (show 0 ≤ tnv16.toInt ∧ tnv16.toInt ≤ 2 from by omega) hp_tng3_0 hp_tng4_0 hp_tng5_0 hp_tng9_0 hp_tng10_0) (cwV 2 hts (gV tw_5_157 tw_4_96 tw_4_97 tw_1_6 tw_4_98) rfl rfl rfl hdV_X1_wayTo ⟨Nat.le_of_ble_eq_true rfl, Nat.le_of_ble_eq_true rfl⟩) (cz_V hK hPc hDc hN (ci := 1) (q0 := 0) rfl rfl [.ref tn, .int p1]) rfl rfl hl.1 rfl (lv_room (Nat.le_of_ble_eq_true rfl)) dX3_weighLanes_40 ⟨Nat.le_of_ble_eq_true rfl, Nat.le_of_ble_eq_true rfl⟩) hS (fun q _ h => hFc q h) hFc (fun r_12 uZ tZ H1 locs ht hvm hw hB hz1 hk1 hS => ?_)
    obtain ⟨hP1, hK1, hD1⟩ := hB
    rw [ht] at hP1
    obtain ⟨hP, hD⟩ := va_join (wr := [(ob, .inr (3, [.ref oba, .ref ob_1])), (ob_1, .inl (k 2, 1000, .inr (.inl obg1)))]) (w1 := [(oba, .inr (1, [.ref oba_0, .int o_5, .int o_6])), (oba_0, .inl (k 0, 8, .inl o_7)), (tn, .inr (10, [.int tnv0, .int tnv1, .int tnv2, .ref tn_3, .ref tn_4, .ref tn_5, .ref tn_6, .int tnv7, .int tnv8, .ref tn_9, .ref tn_10, .int tnv11, .ref tn_12, .ref tn_13, .ref tn_14, .ref tn_15, .int tnv16, .ref tn_17, .ref tn_18, .ref tnt])), (tn_3, .inl (k 0, 10, .inl tng3)), (tn_4, .inl (k 0, 10, .inl tng4)), (tn_5, .inl (k 0, 10, .inl tng5)), (tn_9, .inl (k 0, 4, .inl tng9)), (tn_10, .inl (k 0, 4, .inl tng10))]) hP hD [2, 3, 4, 5, 6, 7, 8, 9] [0, 1] rfl rfl (by decide +kernel) (by decide +kernel) hk1 hFc hP1 hD1
    clear hK1 hP1 hD1 hPc hDc hFc
    clear hk1 hz1 ht hvm
    have hP : va_P D vwCl [(ob, .inr (3, [.ref oba, .ref ob_1])), (ob_1, .inl (k 2, 1000, .inr (.inl obg1))), (oba, .inr (1, [.ref oba_0, .int o_5, .int o_6])), (oba_0, .inl (k 0, 8, .inl o_7)), (tn, .inr (10, [.int tnv0, .int tnv1, .int tnv2, .ref tn_3, .ref tn_4, .ref tn_5, .ref tn_6, .int tnv7, .int tnv8, .ref tn_9, .ref tn_10, .int tnv11, .ref tn_12, .ref tn_13, .ref tn_14, .ref tn_15, .int tnv16, .ref tn_17, .ref tn_18, .ref tnt])), (tn_3, .inl (k 0, 10, .inl tng3)), (tn_4, .inl (k 0, 10, .inl tng4)), (tn_5, .inl (k 0, 10, .inl tng5)), (tn_9, .inl (k 0, 4, .inl tng9)), (tn_10, .inl (k 0, 4, .inl tng10))] H1 := hP
    have hD : va_D A [(ob, .inr (3, [.ref oba, .ref ob_1])), (ob_1, .inl (k 2, 1000, .inr (.inl obg1))), (oba, .inr (1, [.ref oba_0, .int o_5, .int o_6])), (oba_0, .inl (k 0, 8, .inl o_7)), (tn, .inr (10, [.int tnv0, .int tnv1, .int tnv2, .ref tn_3, .ref tn_4, .ref tn_5, .ref tn_6, .int tnv7, .int tnv8, .ref tn_9, .ref tn_10, .int tnv11, .ref tn_12, .ref tn_13, .ref tn_14, .ref tn_15, .int tnv16, .ref tn_17, .ref tn_18, .ref tnt])), (tn_3, .inl (k 0, 10, .inl tng3)), (tn_4, .inl (k 0, 10, .inl tng4)), (tn_5, .inl (k 0, 10, .inl tng5)), (tn_9, .inl (k 0, 4, .inl tng9)), (tn_10, .inl (k 0, 4, .inl tng10))] := hD
    generalize H1 = H at hP hS ⊢
    have hw_13 : (0 ≤ r_12.toInt ∧ r_12.toInt ≤ 1023) := hw
    have hw_14 := hw_13
    clear hw
    refine lv_iload_n hx hb dX3_weighLanes_43 rfl (lv_at hl 4 rfl) ?_
    refine lv_iconst (v := (-1)) hx hb dX3_weighLanes_44 (by decide) ?_
    refine lv_ixor hx hb dX3_weighLanes_45 ?_
    refine lv_topi (fun x_15 ex_15 => ?_)
    have zrp2 := z_rng p2
    refine lv_iand hx hb dX3_weighLanes_46 ?_
    refine lv_topi (fun x_16 ex_16 => ?_)
    have zrx_15 := z_rng x_15
    have zx_16 : 0 ≤ x_16.toInt ∧ x_16.toInt ≤ r_12.toInt := by rw [ex_16]; exact z_andL (by omega)
    refine lv_istore (lv' := [(9, .int x_16), (8, .int x_10), (0, .ref ob), (1, .ref tn), (2, .int p1), (3, .int p2), (4, .int p3), (5, .long p4), (7, .int 10)]) hx hb dX3_weighLanes_47 hl (by decide) rfl (fun ls hl => ?_)
    refine lv_iload hx hb dX3_weighLanes_49 (lv_at hl 0 rfl) ?_
    refine lv_iload hx hb dX3_weighLanes_51 (lv_at hl 0 rfl) ?_
    refine lv_ineg hx hb dX3_weighLanes_53 ?_
    refine lv_topi (fun x_17 ex_17 => ?_)
    refine lv_iand hx hb dX3_weighLanes_54 ?_
    refine lv_topi (fun x_18 ex_18 => ?_)
    have zrx_17 := z_rng x_17
    have zx_18 : 0 ≤ x_18.toInt ∧ x_18.toInt ≤ x_16.toInt := by rw [ex_18]; exact z_andL (by omega)
    refine lv_iconst (v := 1) hx hb dX3_weighLanes_55 (by decide) ?_
    refine lv_isub hx hb dX3_weighLanes_56 ?_
    refine lv_topi (fun x_19 ex_19 => ?_)
    have zx_19 : x_19.toInt = x_18.toInt - 1 := by rw [ex_19]; exact z_sub rfl rfl (by omega) (by omega)
    obtain ⟨hPc, hDc, hFc⟩ := sub3 hP hD hS hA (ws' := []) [] (by decide +kernel) rfl
    refine va_calli (va_runS (As := [.int x_19]) (rest := []) ⟨hx, hb, hml, hown, hts⟩ (c_J6_bitCount_0f7a4 l D k x_19 H.size) (va_cwS 1 hts (gS tw_5_158 tw_4_101 tw_1_20 tw_4_102) rfl rfl rfl hdS_J6_bitCount_0f7a4 ⟨Nat.le_of_ble_eq_true rfl, Nat.le_of_ble_eq_true rfl⟩) (cz_S hK hPc hDc hN [.int x_19]) rfl rfl hl.1 rfl (lv_room (Nat.le_of_ble_eq_true rfl)) dX3_weighLanes_57 ⟨Nat.le_of_ble_eq_true rfl, Nat.le_of_ble_eq_true rfl⟩) hS (fun q _ h => hFc q h) hFc (fun r_20 uZ tZ H1 locs ht hvm hw hB hz1 hk1 hS => ?_)
    obtain ⟨hP1, hK1, hD1⟩ := hB
    rw [ht] at hP1
    obtain ⟨hP, hD⟩ := va_join (wr := [(ob, .inr (3, [.ref oba, .ref ob_1])), (ob_1, .inl (k 2, 1000, .inr (.inl obg1))), (oba, .inr (1, [.ref oba_0, .int o_5, .int o_6])), (oba_0, .inl (k 0, 8, .inl o_7)), (tn, .inr (10, [.int tnv0, .int tnv1, .int tnv2, .ref tn_3, .ref tn_4, .ref tn_5, .ref tn_6, .int tnv7, .int tnv8, .ref tn_9, .ref tn_10, .int tnv11, .ref tn_12, .ref tn_13, .ref tn_14, .ref tn_15, .int tnv16, .ref tn_17, .ref tn_18, .ref tnt])), (tn_3, .inl (k 0, 10, .inl tng3)), (tn_4, .inl (k 0, 10, .inl tng4)), (tn_5, .inl (k 0, 10, .inl tng5)), (tn_9, .inl (k 0, 4, .inl tng9)), (tn_10, .inl (k 0, 4, .inl tng10))]) (w1 := []) hP hD [] [0, 1, 2, 3, 4, 5, 6, 7, 8, 9] rfl rfl (by decide +kernel) (by decide +kernel) hk1 hFc hP1 hD1
    clear hK1 hP1 hD1 hPc hDc hFc
    clear hk1 hz1 ht hvm
    have hP : va_P D vwCl [(ob, .inr (3, [.ref oba, .ref ob_1])), (ob_1, .inl (k 2, 1000, .inr (.inl obg1))), (oba, .inr (1, [.ref oba_0, .int o_5, .int o_6])), (oba_0, .inl (k 0, 8, .inl o_7)), (tn, .inr (10, [.int tnv0, .int tnv1, .int tnv2, .ref tn_3, .ref tn_4, .ref tn_5, .ref tn_6, .int tnv7, .int tnv8, .ref tn_9, .ref tn_10, .int tnv11, .ref tn_12, .ref tn_13, .ref tn_14, .ref tn_15, .int tnv16, .ref tn_17, .ref tn_18, .ref tnt])), (tn_3, .inl (k 0, 10, .inl tng3)), (tn_4, .inl (k 0, 10, .inl tng4)), (tn_5, .inl (k 0, 10, .inl tng5)), (tn_9, .inl (k 0, 4, .inl tng9)), (tn_10, .inl (k 0, 4, .inl tng10))] H1 := hP
    have hD : va_D A [(ob, .inr (3, [.ref oba, .ref ob_1])), (ob_1, .inl (k 2, 1000, .inr (.inl obg1))), (oba, .inr (1, [.ref oba_0, .int o_5, .int o_6])), (oba_0, .inl (k 0, 8, .inl o_7)), (tn, .inr (10, [.int tnv0, .int tnv1, .int tnv2, .ref tn_3, .ref tn_4, .ref tn_5, .ref tn_6, .int tnv7, .int tnv8, .ref tn_9, .ref tn_10, .int tnv11, .ref tn_12, .ref tn_13, .ref tn_14, .ref tn_15, .int tnv16, .ref tn_17, .ref tn_18, .ref tnt])), (tn_3, .inl (k 0, 10, .inl tng3)), (tn_4, .inl (k 0, 10, .inl tng4)), (tn_5, .inl (k 0, 10, .inl tng5)), (tn_9, .inl (k 0, 4, .inl tng9)), (tn_10, .inl (k 0, 4, .inl tng10))] := hD
    generalize H1 = H at hP hS ⊢
    have hw_21 : (0 ≤ r_20.toInt ∧ r_20.toInt ≤ 63) := hw
    have hw_22 := hw_21
    clear hw
    refine lv_istore (lv' := [(10, .int r_20), (9, .int x_16), (8, .int x_10), (0, .ref ob), (1, .ref tn), (2, .int p1), (3, .int p2), (4, .int p3), (5, .long p4), (7, .int 10)]) hx hb dX3_weighLanes_60 hl (by decide) rfl (fun ls hl => ?_)
    refine lv_iload hx hb dX3_weighLanes_62 (lv_at hl 1 rfl) ?_
    refine lv_if_eq (tgt := 81) hx hb dX3_weighLanes_64 (by decide) (fun h_23 => ?_) (fun h_23 => ?_)
    · skip
      have zh_23 : x_16.toInt = 0 := z_eq h_23
      refine lv_aload_n hx hb dX3_weighLanes_81 rfl (lv_at hl 3 rfl) ?_
      refine va_get (D := D) (ci := 3) (v := .ref ob_1) (C := RX3) (T := TX3) (N := 2) hx hb hts iT_X3 hown hK hP 0 rfl rfl 1 (by decide) (hts _ tw_2_164) (fun _ h9 => h9) rfl dX3_weighLanes_82 ?_
      refine lv_iload hx hb dX3_weighLanes_85 (lv_at hl 2 rfl) ?_
      refine lv_dup2_11 hx hb dX3_weighLanes_87 rfl rfl ?_
      refine va_lald hx hb hK hP 1 2 rfl rfl (z_in (by omega) (by omega)) dX3_weighLanes_88 ?_
      refine lv_topl (fun x_24 ex_24 => ?_)
      refine lv_lload hx hb dX3_weighLanes_89 (lv_at hl 8 rfl) ?_
      refine lv_ladd hx hb dX3_weighLanes_91 ?_
      refine lv_topl (fun x_25 ex_25 => ?_)
      refine va_last hx hb hK hP hD hS 1 2 rfl rfl (z_in (by omega) (by omega)) dX3_weighLanes_92 (fun H locs hP hD hS => ?_)
      obtain ⟨g_26, eg_26⟩ : ∃ z : Nat → Int64, vp_updL obg1 x_10.toNatClampNeg x_25 = z := ⟨_, rfl⟩
      have hP : va_P D vwCl [(ob, .inr (3, [.ref oba, .ref ob_1])), (ob_1, .inl (k 2, 1000, .inr (.inl (vp_updL obg1 x_10.toNatClampNeg x_25)))), (oba, .inr (1, [.ref oba_0, .int o_5, .int o_6])), (oba_0, .inl (k 0, 8, .inl o_7)), (tn, .inr (10, [.int tnv0, .int tnv1, .int tnv2, .ref tn_3, .ref tn_4, .ref tn_5, .ref tn_6, .int tnv7, .int tnv8, .ref tn_9, .ref tn_10, .int tnv11, .ref tn_12, .ref tn_13, .ref tn_14, .ref tn_15, .int tnv16, .ref tn_17, .ref tn_18, .ref tnt])), (tn_3, .inl (k 0, 10, .inl tng3)), (tn_4, .inl (k 0, 10, .inl tng4)), (tn_5, .inl (k 0, 10, .inl tng5)), (tn_9, .inl (k 0, 4, .inl tng9)), (tn_10, .inl (k 0, 4, .inl tng10))] H := hP
      have hD : va_D A [(ob, .inr (3, [.ref oba, .ref ob_1])), (ob_1, .inl (k 2, 1000, .inr (.inl (vp_updL obg1 x_10.toNatClampNeg x_25)))), (oba, .inr (1, [.ref oba_0, .int o_5, .int o_6])), (oba_0, .inl (k 0, 8, .inl o_7)), (tn, .inr (10, [.int tnv0, .int tnv1, .int tnv2, .ref tn_3, .ref tn_4, .ref tn_5, .ref tn_6, .int tnv7, .int tnv8, .ref tn_9, .ref tn_10, .int tnv11, .ref tn_12, .ref tn_13, .ref tn_14, .ref tn_15, .int tnv16, .ref tn_17, .ref tn_18, .ref tnt])), (tn_3, .inl (k 0, 10, .inl tng3)), (tn_4, .inl (k 0, 10, .inl tng4)), (tn_5, .inl (k 0, 10, .inl tng5)), (tn_9, .inl (k 0, 4, .inl tng9)), (tn_10, .inl (k 0, 4, .inl tng10))] := hD
      rw [eg_26] at hP hD
      obtain ⟨hP9, hD9⟩ := sub2 hP hD (ws' := [(ob, .inr (3, [.ref oba, .ref ob_1])), (oba, .inr (1, [.ref oba_0, .int o_5, .int o_6])), (oba_0, .inl (k 0, 8, .inl o_7)), (ob_1, .inl (k 2, 1000, .inr (.inl g_26))), (tn, .inr (10, [.int tnv0, .int tnv1, .int tnv2, .ref tn_3, .ref tn_4, .ref tn_5, .ref tn_6, .int tnv7, .int tnv8, .ref tn_9, .ref tn_10, .int tnv11, .ref tn_12, .ref tn_13, .ref tn_14, .ref tn_15, .int tnv16, .ref tn_17, .ref tn_18, .ref tnt])), (tn_3, .inl (k 0, 10, .inl tng3)), (tn_4, .inl (k 0, 10, .inl tng4)), (tn_5, .inl (k 0, 10, .inl tng5)), (tn_9, .inl (k 0, 4, .inl tng9)), (tn_10, .inl (k 0, 4, .inl tng10))]) [0, 2, 3, 1, 4, 5, 6, 7, 8, 9] (by decide +kernel) rfl
      exact W.vret hx hb hr (fun tZ ht hW => ⟨⟨(o_5, o_6, o_7, g_26), rfl, hw_9, by rw [ht]; exact hP9, va_K.moved hW.alike hK, hD9⟩, hS.F ht⟩) hS.2.2 dX3_weighLanes_93
    · skip
      have zh_23 : ¬ x_16.toInt = 0 := z_ne h_23
      refine lv_iload hx hb dX3_weighLanes_67 (lv_at hl 0 rfl) ?_
      refine lv_bipush (v := 10) hx hb dX3_weighLanes_69 (by decide) ?_
      refine lv_icmp_ge (tgt := 81) hx hb dX3_weighLanes_71 (by decide) (fun h_27 => ?_) (fun h_27 => ?_)
      · skip
        have zh_27 : 10 ≤ r_20.toInt := z_le h_27
        refine lv_aload_n hx hb dX3_weighLanes_81 rfl (lv_at hl 3 rfl) ?_
        refine va_get (D := D) (ci := 3) (v := .ref ob_1) (C := RX3) (T := TX3) (N := 2) hx hb hts iT_X3 hown hK hP 0 rfl rfl 1 (by decide) (hts _ tw_2_164) (fun _ h9 => h9) rfl dX3_weighLanes_82 ?_
        refine lv_iload hx hb dX3_weighLanes_85 (lv_at hl 2 rfl) ?_
        refine lv_dup2_11 hx hb dX3_weighLanes_87 rfl rfl ?_
        refine va_lald hx hb hK hP 1 2 rfl rfl (z_in (by omega) (by omega)) dX3_weighLanes_88 ?_
        refine lv_topl (fun x_28 ex_28 => ?_)
        refine lv_lload hx hb dX3_weighLanes_89 (lv_at hl 8 rfl) ?_
        refine lv_ladd hx hb dX3_weighLanes_91 ?_
        refine lv_topl (fun x_29 ex_29 => ?_)
        refine va_last hx hb hK hP hD hS 1 2 rfl rfl (z_in (by omega) (by omega)) dX3_weighLanes_92 (fun H locs hP hD hS => ?_)
        obtain ⟨g_30, eg_30⟩ : ∃ z : Nat → Int64, vp_updL obg1 x_10.toNatClampNeg x_29 = z := ⟨_, rfl⟩
        have hP : va_P D vwCl [(ob, .inr (3, [.ref oba, .ref ob_1])), (ob_1, .inl (k 2, 1000, .inr (.inl (vp_updL obg1 x_10.toNatClampNeg x_29)))), (oba, .inr (1, [.ref oba_0, .int o_5, .int o_6])), (oba_0, .inl (k 0, 8, .inl o_7)), (tn, .inr (10, [.int tnv0, .int tnv1, .int tnv2, .ref tn_3, .ref tn_4, .ref tn_5, .ref tn_6, .int tnv7, .int tnv8, .ref tn_9, .ref tn_10, .int tnv11, .ref tn_12, .ref tn_13, .ref tn_14, .ref tn_15, .int tnv16, .ref tn_17, .ref tn_18, .ref tnt])), (tn_3, .inl (k 0, 10, .inl tng3)), (tn_4, .inl (k 0, 10, .inl tng4)), (tn_5, .inl (k 0, 10, .inl tng5)), (tn_9, .inl (k 0, 4, .inl tng9)), (tn_10, .inl (k 0, 4, .inl tng10))] H := hP
        have hD : va_D A [(ob, .inr (3, [.ref oba, .ref ob_1])), (ob_1, .inl (k 2, 1000, .inr (.inl (vp_updL obg1 x_10.toNatClampNeg x_29)))), (oba, .inr (1, [.ref oba_0, .int o_5, .int o_6])), (oba_0, .inl (k 0, 8, .inl o_7)), (tn, .inr (10, [.int tnv0, .int tnv1, .int tnv2, .ref tn_3, .ref tn_4, .ref tn_5, .ref tn_6, .int tnv7, .int tnv8, .ref tn_9, .ref tn_10, .int tnv11, .ref tn_12, .ref tn_13, .ref tn_14, .ref tn_15, .int tnv16, .ref tn_17, .ref tn_18, .ref tnt])), (tn_3, .inl (k 0, 10, .inl tng3)), (tn_4, .inl (k 0, 10, .inl tng4)), (tn_5, .inl (k 0, 10, .inl tng5)), (tn_9, .inl (k 0, 4, .inl tng9)), (tn_10, .inl (k 0, 4, .inl tng10))] := hD
        rw [eg_30] at hP hD
        obtain ⟨hP9, hD9⟩ := sub2 hP hD (ws' := [(ob, .inr (3, [.ref oba, .ref ob_1])), (oba, .inr (1, [.ref oba_0, .int o_5, .int o_6])), (oba_0, .inl (k 0, 8, .inl o_7)), (ob_1, .inl (k 2, 1000, .inr (.inl g_30))), (tn, .inr (10, [.int tnv0, .int tnv1, .int tnv2, .ref tn_3, .ref tn_4, .ref tn_5, .ref tn_6, .int tnv7, .int tnv8, .ref tn_9, .ref tn_10, .int tnv11, .ref tn_12, .ref tn_13, .ref tn_14, .ref tn_15, .int tnv16, .ref tn_17, .ref tn_18, .ref tnt])), (tn_3, .inl (k 0, 10, .inl tng3)), (tn_4, .inl (k 0, 10, .inl tng4)), (tn_5, .inl (k 0, 10, .inl tng5)), (tn_9, .inl (k 0, 4, .inl tng9)), (tn_10, .inl (k 0, 4, .inl tng10))]) [0, 2, 3, 1, 4, 5, 6, 7, 8, 9] (by decide +kernel) rfl
        exact W.vret hx hb hr (fun tZ ht hW => ⟨⟨(o_5, o_6, o_7, g_30), rfl, hw_9, by rw [ht]; exact hP9, va_K.moved hW.alike hK, hD9⟩, hS.F ht⟩) hS.2.2 dX3_weighLanes_93
      · skip
        have zh_27 : r_20.toInt < 10 := z_nle h_27
        refine lv_iload hx hb dX3_weighLanes_74 (lv_at hl 9 rfl) ?_
        refine lv_bipush (v := 10) hx hb dX3_weighLanes_76 (by decide) ?_
        refine lv_icmp_lt (tgt := 94) hx hb dX3_weighLanes_78 (by decide) (fun c9 => absurd c9 (by decide)) (fun _ => ?_)
        refine lv_aload_n hx hb dX3_weighLanes_81 rfl (lv_at hl 3 rfl) ?_
        refine va_get (D := D) (ci := 3) (v := .ref ob_1) (C := RX3) (T := TX3) (N := 2) hx hb hts iT_X3 hown hK hP 0 rfl rfl 1 (by decide) (hts _ tw_2_164) (fun _ h9 => h9) rfl dX3_weighLanes_82 ?_
        refine lv_iload hx hb dX3_weighLanes_85 (lv_at hl 2 rfl) ?_
        refine lv_dup2_11 hx hb dX3_weighLanes_87 rfl rfl ?_
        refine va_lald hx hb hK hP 1 2 rfl rfl (z_in (by omega) (by omega)) dX3_weighLanes_88 ?_
        refine lv_topl (fun x_31 ex_31 => ?_)
        refine lv_lload hx hb dX3_weighLanes_89 (lv_at hl 8 rfl) ?_
        refine lv_ladd hx hb dX3_weighLanes_91 ?_
        refine lv_topl (fun x_32 ex_32 => ?_)
        refine va_last hx hb hK hP hD hS 1 2 rfl rfl (z_in (by omega) (by omega)) dX3_weighLanes_92 (fun H locs hP hD hS => ?_)
        obtain ⟨g_33, eg_33⟩ : ∃ z : Nat → Int64, vp_updL obg1 x_10.toNatClampNeg x_32 = z := ⟨_, rfl⟩
        have hP : va_P D vwCl [(ob, .inr (3, [.ref oba, .ref ob_1])), (ob_1, .inl (k 2, 1000, .inr (.inl (vp_updL obg1 x_10.toNatClampNeg x_32)))), (oba, .inr (1, [.ref oba_0, .int o_5, .int o_6])), (oba_0, .inl (k 0, 8, .inl o_7)), (tn, .inr (10, [.int tnv0, .int tnv1, .int tnv2, .ref tn_3, .ref tn_4, .ref tn_5, .ref tn_6, .int tnv7, .int tnv8, .ref tn_9, .ref tn_10, .int tnv11, .ref tn_12, .ref tn_13, .ref tn_14, .ref tn_15, .int tnv16, .ref tn_17, .ref tn_18, .ref tnt])), (tn_3, .inl (k 0, 10, .inl tng3)), (tn_4, .inl (k 0, 10, .inl tng4)), (tn_5, .inl (k 0, 10, .inl tng5)), (tn_9, .inl (k 0, 4, .inl tng9)), (tn_10, .inl (k 0, 4, .inl tng10))] H := hP
        have hD : va_D A [(ob, .inr (3, [.ref oba, .ref ob_1])), (ob_1, .inl (k 2, 1000, .inr (.inl (vp_updL obg1 x_10.toNatClampNeg x_32)))), (oba, .inr (1, [.ref oba_0, .int o_5, .int o_6])), (oba_0, .inl (k 0, 8, .inl o_7)), (tn, .inr (10, [.int tnv0, .int tnv1, .int tnv2, .ref tn_3, .ref tn_4, .ref tn_5, .ref tn_6, .int tnv7, .int tnv8, .ref tn_9, .ref tn_10, .int tnv11, .ref tn_12, .ref tn_13, .ref tn_14, .ref tn_15, .int tnv16, .ref tn_17, .ref tn_18, .ref tnt])), (tn_3, .inl (k 0, 10, .inl tng3)), (tn_4, .inl (k 0, 10, .inl tng4)), (tn_5, .inl (k 0, 10, .inl tng5)), (tn_9, .inl (k 0, 4, .inl tng9)), (tn_10, .inl (k 0, 4, .inl tng10))] := hD
        rw [eg_33] at hP hD
        obtain ⟨hP9, hD9⟩ := sub2 hP hD (ws' := [(ob, .inr (3, [.ref oba, .ref ob_1])), (oba, .inr (1, [.ref oba_0, .int o_5, .int o_6])), (oba_0, .inl (k 0, 8, .inl o_7)), (ob_1, .inl (k 2, 1000, .inr (.inl g_33))), (tn, .inr (10, [.int tnv0, .int tnv1, .int tnv2, .ref tn_3, .ref tn_4, .ref tn_5, .ref tn_6, .int tnv7, .int tnv8, .ref tn_9, .ref tn_10, .int tnv11, .ref tn_12, .ref tn_13, .ref tn_14, .ref tn_15, .int tnv16, .ref tn_17, .ref tn_18, .ref tnt])), (tn_3, .inl (k 0, 10, .inl tng3)), (tn_4, .inl (k 0, 10, .inl tng4)), (tn_5, .inl (k 0, 10, .inl tng5)), (tn_9, .inl (k 0, 4, .inl tng9)), (tn_10, .inl (k 0, 4, .inl tng10))]) [0, 2, 3, 1, 4, 5, 6, 7, 8, 9] (by decide +kernel) rfl
        exact W.vret hx hb hr (fun tZ ht hW => ⟨⟨(o_5, o_6, o_7, g_33), rfl, hw_9, by rw [ht]; exact hP9, va_K.moved hW.alike hK, hD9⟩, hS.F ht⟩) hS.2.2 dX3_weighLanes_93
  · skip
    have zh_11 : 1000 ≤ x_10.toInt := z_nlt h_11
    obtain ⟨hP9, hD9⟩ := sub2 hP hD (ws' := [(ob, .inr (3, [.ref oba, .ref ob_1])), (oba, .inr (1, [.ref oba_0, .int o_5, .int o_6])), (oba_0, .inl (k 0, 8, .inl o_7)), (ob_1, .inl (k 2, 1000, .inr (.inl obg1))), (tn, .inr (10, [.int tnv0, .int tnv1, .int tnv2, .ref tn_3, .ref tn_4, .ref tn_5, .ref tn_6, .int tnv7, .int tnv8, .ref tn_9, .ref tn_10, .int tnv11, .ref tn_12, .ref tn_13, .ref tn_14, .ref tn_15, .int tnv16, .ref tn_17, .ref tn_18, .ref tnt])), (tn_3, .inl (k 0, 10, .inl tng3)), (tn_4, .inl (k 0, 10, .inl tng4)), (tn_5, .inl (k 0, 10, .inl tng5)), (tn_9, .inl (k 0, 4, .inl tng9)), (tn_10, .inl (k 0, 4, .inl tng10))]) [0, 2, 3, 1, 4, 5, 6, 7, 8, 9] (by decide +kernel) rfl
    exact W.vret hx hb hr (fun tZ ht hW => ⟨⟨(o_5, o_6, o_7, obg1), rfl, hw_9, by rw [ht]; exact hP9, va_K.moved hW.alike hK, hD9⟩, hS.F ht⟩) hS.2.2 dX3_weighLanes_33
set_option maxHeartbeats 4000000 in
set_option maxRecDepth 100000 in
theorem c_X3_weighLanes_1 (l : Launch) (D : va_G) (k : Nat → ClassId) (ob : Nat) (tn : Nat) (p1 : Int32) (p2 : Int32) (p3 : Int32) (p4 : Int64) (oba : Nat) (ob_1 : Nat) (oba_0 : Nat) (obav1 : Int32) (obav2 : Int32) (obag0 : Nat → Int32) (obg1 : Nat → Int64) (tnv0 : Int32) (tnv1 : Int32) (tnv2 : Int32) (tn_3 : Nat) (tn_4 : Nat) (tn_5 : Nat) (tn_6 : Nat) (tnv7 : Int32) (tnv8 : Int32) (tn_9 : Nat) (tn_10 : Nat) (tnv11 : Int32) (tn_12 : Nat) (tn_13 : Nat) (tn_14 : Nat) (tn_15 : Nat) (tnv16 : Int32) (tn_17 : Nat) (tn_18 : Nat) (tnt : Nat) (tng3 : Nat → Int32) (tng4 : Nat → Int32) (tng5 : Nat → Int32) (tng6 : Nat → Int32) (tng9 : Nat → Int32) (tng10 : Nat → Int32) (sz : Nat) (h_p1 : 0 ≤ p1.toInt ∧ p1.toInt ≤ 7) (hp_obag0_0 : PR 8 1 0 0 1000000 obag0) (h_tnv0 : 0 ≤ tnv0.toInt ∧ tnv0.toInt ≤ 8) (h_tnv2 : 0 ≤ tnv2.toInt ∧ tnv2.toInt ≤ 10) (h_tnv8 : 0 ≤ tnv8.toInt ∧ tnv8.toInt ≤ 4) (h_tnv11 : 0 ≤ tnv11.toInt ∧ tnv11.toInt ≤ 6) (h_tnv16 : 0 ≤ tnv16.toInt ∧ tnv16.toInt ≤ 2) (hp_tng3_0 : PR 10 1 0 0 7 tng3) (hp_tng4_0 : PR 10 1 0 0 7 tng4) (hp_tng5_0 : PR 10 1 0 0 60 tng5) (hp_tng6_0 : PR 10 1 0 0 10 tng6) (hp_tng9_0 : PR 4 1 0 0 7 tng9) (hp_tng10_0 : PR 4 1 0 0 99 tng10) : Met l yX3_weighLanes (ww yX3_weighLanes cX3_weighLanes 14 none) ({ frames := 5, cells := 0, slots := 0, locals := 133 }) (Pre0 D k [(ob, .inr (3, [.ref oba, .ref ob_1])), (oba, .inr (1, [.ref oba_0, .int obav1, .int obav2])), (oba_0, .inl (k 0, 8, .inl obag0)), (ob_1, .inl (k 2, 1000, .inr (.inl obg1))), (tn, .inr (10, [.int tnv0, .int tnv1, .int tnv2, .ref tn_3, .ref tn_4, .ref tn_5, .ref tn_6, .int tnv7, .int tnv8, .ref tn_9, .ref tn_10, .int tnv11, .ref tn_12, .ref tn_13, .ref tn_14, .ref tn_15, .int tnv16, .ref tn_17, .ref tn_18, .ref tnt])), (tn_3, .inl (k 0, 10, .inl tng3)), (tn_4, .inl (k 0, 10, .inl tng4)), (tn_5, .inl (k 0, 10, .inl tng5)), (tn_6, .inl (k 0, 10, .inl tng6)), (tn_9, .inl (k 0, 4, .inl tng9)), (tn_10, .inl (k 0, 4, .inl tng10))] sz [.ref ob, .ref tn, .int p1, .int p2, .int p3, .long p4, .int 9]) (va_Qv (fun (u : Int32 × Int32 × (Nat → Int32) × (Nat → Int64)) => match u with | (obav1z, obav2z, obag0z, obg1z) => (PR 8 1 0 0 1000000 obag0z)) (fun (u : Int32 × Int32 × (Nat → Int32) × (Nat → Int64)) tZ => match u with | (obav1z, obav2z, obag0z, obg1z) => Bw D k (va_A [(ob, .inr (3, [.ref oba, .ref ob_1])), (oba, .inr (1, [.ref oba_0, .int obav1, .int obav2])), (oba_0, .inl (k 0, 8, .inl obag0)), (ob_1, .inl (k 2, 1000, .inr (.inl obg1))), (tn, .inr (10, [.int tnv0, .int tnv1, .int tnv2, .ref tn_3, .ref tn_4, .ref tn_5, .ref tn_6, .int tnv7, .int tnv8, .ref tn_9, .ref tn_10, .int tnv11, .ref tn_12, .ref tn_13, .ref tn_14, .ref tn_15, .int tnv16, .ref tn_17, .ref tn_18, .ref tnt])), (tn_3, .inl (k 0, 10, .inl tng3)), (tn_4, .inl (k 0, 10, .inl tng4)), (tn_5, .inl (k 0, 10, .inl tng5)), (tn_6, .inl (k 0, 10, .inl tng6)), (tn_9, .inl (k 0, 4, .inl tng9)), (tn_10, .inl (k 0, 4, .inl tng10))] sz) [(ob, .inr (3, [.ref oba, .ref ob_1])), (oba, .inr (1, [.ref oba_0, .int obav1z, .int obav2z])), (oba_0, .inl (k 0, 8, .inl obag0z)), (ob_1, .inl (k 2, 1000, .inr (.inl obg1z))), (tn, .inr (10, [.int tnv0, .int tnv1, .int tnv2, .ref tn_3, .ref tn_4, .ref tn_5, .ref tn_6, .int tnv7, .int tnv8, .ref tn_9, .ref tn_10, .int tnv11, .ref tn_12, .ref tn_13, .ref tn_14, .ref tn_15, .int tnv16, .ref tn_17, .ref tn_18, .ref tnt])), (tn_3, .inl (k 0, 10, .inl tng3)), (tn_4, .inl (k 0, 10, .inl tng4)), (tn_5, .inl (k 0, 10, .inl tng5)), (tn_6, .inl (k 0, 10, .inl tng6)), (tn_9, .inl (k 0, 4, .inl tng9)), (tn_10, .inl (k 0, 4, .inl tng10))] tZ) (va_A [(ob, .inr (3, [.ref oba, .ref ob_1])), (oba, .inr (1, [.ref oba_0, .int obav1, .int obav2])), (oba_0, .inl (k 0, 8, .inl obag0)), (ob_1, .inl (k 2, 1000, .inr (.inl obg1))), (tn, .inr (10, [.int tnv0, .int tnv1, .int tnv2, .ref tn_3, .ref tn_4, .ref tn_5, .ref tn_6, .int tnv7, .int tnv8, .ref tn_9, .ref tn_10, .int tnv11, .ref tn_12, .ref tn_13, .ref tn_14, .ref tn_15, .int tnv16, .ref tn_17, .ref tn_18, .ref tnt])), (tn_3, .inl (k 0, 10, .inl tng3)), (tn_4, .inl (k 0, 10, .inl tng4)), (tn_5, .inl (k 0, 10, .inl tng5)), (tn_6, .inl (k 0, 10, .inl tng6)), (tn_9, .inl (k 0, 4, .inl tng9)), (tn_10, .inl (k 0, 4, .inl tng10))] sz)) 0 0 (va_A [(ob, .inr (3, [.ref oba, .ref ob_1])), (oba, .inr (1, [.ref oba_0, .int obav1, .int obav2])), (oba_0, .inl (k 0, 8, .inl obag0)), (ob_1, .inl (k 2, 1000, .inr (.inl obg1))), (tn, .inr (10, [.int tnv0, .int tnv1, .int tnv2, .ref tn_3, .ref tn_4, .ref tn_5, .ref tn_6, .int tnv7, .int tnv8, .ref tn_9, .ref tn_10, .int tnv11, .ref tn_12, .ref tn_13, .ref tn_14, .ref tn_15, .int tnv16, .ref tn_17, .ref tn_18, .ref tnt])), (tn_3, .inl (k 0, 10, .inl tng3)), (tn_4, .inl (k 0, 10, .inl tng4)), (tn_5, .inl (k 0, 10, .inl tng5)), (tn_6, .inl (k 0, 10, .inl tng6)), (tn_9, .inl (k 0, 4, .inl tng9)), (tn_10, .inl (k 0, 4, .inl tng10))] sz) := by
  refine Met.ofW (cc := cX3_weighLanes) (maxL := 14) (ret := none) (by decide +kernel) rfl ?_
  intro p e s m args below meth c s₁ B hml hv
  obtain ⟨rfl, hsz, hP, hK, hD0, hN⟩ := hv
  have hx := B.exec
  have hb := B.bytes
  have hr := B.returns
  have hts : ∀ w ∈ TT, w.before _ s = true := fun w h => atoms_spec (ws := ww yX3_weighLanes cX3_weighLanes 14 none) B.pre w (List.mem_cons_of_mem _ h)
  have hown : s.vm.findClass RX3 = some m.cls := findClass_of_methodNamed B.named
  have hlocks := B.notSynchronized
  subst hsz
  have hD := hD0.self (sz := s.heap.size)
  generalize hAe : va_A [(ob, .inr (3, [.ref oba, .ref ob_1])), (oba, .inr (1, [.ref oba_0, .int obav1, .int obav2])), (oba_0, .inl (k 0, 8, .inl obag0)), (ob_1, .inl (k 2, 1000, .inr (.inl obg1))), (tn, .inr (10, [.int tnv0, .int tnv1, .int tnv2, .ref tn_3, .ref tn_4, .ref tn_5, .ref tn_6, .int tnv7, .int tnv8, .ref tn_9, .ref tn_10, .int tnv11, .ref tn_12, .ref tn_13, .ref tn_14, .ref tn_15, .int tnv16, .ref tn_17, .ref tn_18, .ref tnt])), (tn_3, .inl (k 0, 10, .inl tng3)), (tn_4, .inl (k 0, 10, .inl tng4)), (tn_5, .inl (k 0, 10, .inl tng5)), (tn_6, .inl (k 0, 10, .inl tng6)), (tn_9, .inl (k 0, 4, .inl tng9)), (tn_10, .inl (k 0, 4, .inl tng10))] s.heap.size = A at hD ⊢
  have hA : ∀ q : Nat, s.heap.size ≤ q → A q := fun q h => by rw [← hAe]; exact Or.inr h
  have hS : va_S A s.heap s.heap [] := va_S.rf
  have hl := lv_entry ([.ref ob, .ref tn, .int p1, .int p2, .int p3, .long p4, .int 9]) (n := 14) (Nat.le_of_ble_eq_true rfl)
  rw [lg_entry_eq]
  generalize (lg_sl ([.ref ob, .ref tn, .int p1, .int p2, .int p3, .long p4, .int 9]) ++ List.replicate (14 - (lg_sl ([.ref ob, .ref tn, .int p1, .int p2, .int p3, .long p4, .int 9])).length) Slot.unset).toArray = ls at hl ⊢
  have hl : lv_has ls 14 [(0, .ref ob), (1, .ref tn), (2, .int p1), (3, .int p2), (4, .int p3), (5, .long p4), (7, .int 9)] := hl
  refine lv_aload_n hx hb dX3_weighLanes_0 rfl (lv_at hl 0 rfl) ?_
  refine va_get (D := D) (ci := 3) (v := .ref oba) (C := RX3) (T := TX3) (N := 2) hx hb hts iT_X3 hown hK hP 0 rfl rfl 0 (by decide) (hts _ tw_2_163) (fun _ h9 => h9) rfl dX3_weighLanes_1 ?_
  refine lv_aload_n hx hb dX3_weighLanes_4 rfl (lv_at hl 1 rfl) ?_
  refine lv_aload_n hx hb dX3_weighLanes_5 rfl (lv_at hl 1 rfl) ?_
  obtain ⟨hPc, hDc, hFc⟩ := sub3 hP hD hS hA (ws' := [(tn, .inr (10, [.int tnv0, .int tnv1, .int tnv2, .ref tn_3, .ref tn_4, .ref tn_5, .ref tn_6, .int tnv7, .int tnv8, .ref tn_9, .ref tn_10, .int tnv11, .ref tn_12, .ref tn_13, .ref tn_14, .ref tn_15, .int tnv16, .ref tn_17, .ref tn_18, .ref tnt]))]) [4] (by decide +kernel) rfl
  refine va_calli (va_runV (C := RX10) (As := []) (rest := [.ref tn, .ref oba]) ⟨hx, hb, hml, hown, hts⟩ (c_X10_openLanes l D k tn tnv0 tnv1 tnv2 tn_3 tn_4 tn_5 tn_6 tnv7 tnv8 tn_9 tn_10 tnv11 tn_12 tn_13 tn_14 tn_15 tnv16 tn_17 tn_18 tnt s.heap.size (show 0 ≤ tnv0.toInt ∧ tnv0.toInt ≤ 8 from by omega) (show 0 ≤ tnv2.toInt ∧ tnv2.toInt ≤ 10 from by omega) (show 0 ≤ tnv8.toInt ∧ tnv8.toInt ≤ 4 from by omega) (show 0 ≤ tnv11.toInt ∧ tnv11.toInt ≤ 6 from by omega) (show 0 ≤ tnv16.toInt ∧ tnv16.toInt ≤ 2 from by omega)) (cwV 0 hts (gV tw_5_155 tw_3_180 tw_3_181 tw_1_3 tw_3_182) rfl rfl rfl hdV_X10_openLanes ⟨Nat.le_of_ble_eq_true rfl, Nat.le_of_ble_eq_true rfl⟩) (cz_V hK hPc hDc hN (ci := 10) (q0 := 0) rfl rfl []) rfl rfl hl.1 rfl (lv_room (Nat.le_of_ble_eq_true rfl)) dX3_weighLanes_6 ⟨Nat.le_of_ble_eq_true rfl, Nat.le_of_ble_eq_true rfl⟩) hS (fun q _ h => hFc q h) hFc (fun r_1 uZ tZ H1 locs ht hvm hw hB hz1 hk1 hS => ?_)
  obtain ⟨hP1, hK1, hD1⟩ := hB
  rw [ht] at hP1
  obtain ⟨hP, hD⟩ := va_join (wr := [(ob, .inr (3, [.ref oba, .ref ob_1])), (oba, .inr (1, [.ref oba_0, .int obav1, .int obav2])), (oba_0, .inl (k 0, 8, .inl obag0)), (ob_1, .inl (k 2, 1000, .inr (.inl obg1))), (tn_3, .inl (k 0, 10, .inl tng3)), (tn_4, .inl (k 0, 10, .inl tng4)), (tn_5, .inl (k 0, 10, .inl tng5)), (tn_6, .inl (k 0, 10, .inl tng6)), (tn_9, .inl (k 0, 4, .inl tng9)), (tn_10, .inl (k 0, 4, .inl tng10))]) (w1 := [(tn, .inr (10, [.int tnv0, .int tnv1, .int tnv2, .ref tn_3, .ref tn_4, .ref tn_5, .ref tn_6, .int tnv7, .int tnv8, .ref tn_9, .ref tn_10, .int tnv11, .ref tn_12, .ref tn_13, .ref tn_14, .ref tn_15, .int tnv16, .ref tn_17, .ref tn_18, .ref tnt]))]) hP hD [4] [0, 1, 2, 3, 5, 6, 7, 8, 9, 10] rfl rfl (by decide +kernel) (by decide +kernel) hk1 hFc hP1 hD1
  clear hK1 hP1 hD1 hPc hDc hFc
  clear hk1 hz1 ht hvm
  have hP : va_P D vwCl [(ob, .inr (3, [.ref oba, .ref ob_1])), (oba, .inr (1, [.ref oba_0, .int obav1, .int obav2])), (oba_0, .inl (k 0, 8, .inl obag0)), (ob_1, .inl (k 2, 1000, .inr (.inl obg1))), (tn_3, .inl (k 0, 10, .inl tng3)), (tn_4, .inl (k 0, 10, .inl tng4)), (tn_5, .inl (k 0, 10, .inl tng5)), (tn_6, .inl (k 0, 10, .inl tng6)), (tn_9, .inl (k 0, 4, .inl tng9)), (tn_10, .inl (k 0, 4, .inl tng10)), (tn, .inr (10, [.int tnv0, .int tnv1, .int tnv2, .ref tn_3, .ref tn_4, .ref tn_5, .ref tn_6, .int tnv7, .int tnv8, .ref tn_9, .ref tn_10, .int tnv11, .ref tn_12, .ref tn_13, .ref tn_14, .ref tn_15, .int tnv16, .ref tn_17, .ref tn_18, .ref tnt]))] H1 := hP
  have hD : va_D A [(ob, .inr (3, [.ref oba, .ref ob_1])), (oba, .inr (1, [.ref oba_0, .int obav1, .int obav2])), (oba_0, .inl (k 0, 8, .inl obag0)), (ob_1, .inl (k 2, 1000, .inr (.inl obg1))), (tn_3, .inl (k 0, 10, .inl tng3)), (tn_4, .inl (k 0, 10, .inl tng4)), (tn_5, .inl (k 0, 10, .inl tng5)), (tn_6, .inl (k 0, 10, .inl tng6)), (tn_9, .inl (k 0, 4, .inl tng9)), (tn_10, .inl (k 0, 4, .inl tng10)), (tn, .inr (10, [.int tnv0, .int tnv1, .int tnv2, .ref tn_3, .ref tn_4, .ref tn_5, .ref tn_6, .int tnv7, .int tnv8, .ref tn_9, .ref tn_10, .int tnv11, .ref tn_12, .ref tn_13, .ref tn_14, .ref tn_15, .int tnv16, .ref tn_17, .ref tn_18, .ref tnt]))] := hD
  generalize H1 = H at hP hS ⊢
  have hw_2 : (0 ≤ r_1.toInt ∧ r_1.toInt ≤ 1023) := hw
  have hw_3 := hw_2
  clear hw
  refine lv_iload hx hb dX3_weighLanes_9 (lv_at hl 4 rfl) ?_
  obtain ⟨hPc, hDc, hFc⟩ := sub3 hP hD hS hA (ws' := [(oba, .inr (1, [.ref oba_0, .int obav1, .int obav2])), (oba_0, .inl (k 0, 8, .inl obag0)), (tn, .inr (10, [.int tnv0, .int tnv1, .int tnv2, .ref tn_3, .ref tn_4, .ref tn_5, .ref tn_6, .int tnv7, .int tnv8, .ref tn_9, .ref tn_10, .int tnv11, .ref tn_12, .ref tn_13, .ref tn_14, .ref tn_15, .int tnv16, .ref tn_17, .ref tn_18, .ref tnt])), (tn_3, .inl (k 0, 10, .inl tng3)), (tn_4, .inl (k 0, 10, .inl tng4)), (tn_5, .inl (k 0, 10, .inl tng5)), (tn_9, .inl (k 0, 4, .inl tng9)), (tn_10, .inl (k 0, 4, .inl tng10))]) [1, 2, 10, 4, 5, 6, 8, 9] (by decide +kernel) rfl
  refine va_callv (va_runV (C := RX1) (As := [.ref tn, .int r_1, .int p3]) (rest := []) ⟨hx, hb, hml, hown, hts⟩ (c_X1_fall l D k oba tn r_1 p3 oba_0 obav1 obav2 obag0 tnv0 tnv1 tnv2 tn_3 tn_4 tn_5 tn_6 tnv7 tnv8 tn_9 tn_10 tnv11 tn_12 tn_13 tn_14 tn_15 tnv16 tn_17 tn_18 tnt tng3 tng4 tng5 tng9 tng10 H.size hp_obag0_0 (show 0 ≤ tnv0.toInt ∧ tnv0.toInt ≤ 8 from by omega) (show 0 ≤ tnv2.toInt ∧ tnv2.toInt ≤ 10 from by omega) (show 0 ≤ tnv8.toInt ∧ tnv8.toInt ≤ 4 from by omega) (show 0 ≤ tnv11.toInt ∧ tnv11.toInt ≤ 6 from by omega) (show 0 ≤ tnv16.toInt ∧ tnv16.toInt ≤ 2 from by omega) hp_tng3_0 hp_tng4_0 hp_tng5_0 hp_tng9_0 hp_tng10_0) (cwV 3 hts (gV tw_5_156 tw_3_184 tw_3_185 tw_1_6 tw_3_186) rfl rfl rfl hdV_X1_fall ⟨Nat.le_of_ble_eq_true rfl, Nat.le_of_ble_eq_true rfl⟩) (cz_V hK hPc hDc hN (ci := 1) (q0 := 0) rfl rfl [.ref tn, .int r_1, .int p3]) rfl rfl hl.1 rfl (lv_room (Nat.le_of_ble_eq_true rfl)) dX3_weighLanes_11 ⟨Nat.le_of_ble_eq_true rfl, Nat.le_of_ble_eq_true rfl⟩) hS (fun q _ h => hFc q h) hFc (fun uZ tZ H1 locs ht hvm hw hB hz1 hk1 hS => ?_)
  obtain ⟨o_5, o_6, o_7⟩ := uZ
  obtain ⟨hP1, hK1, hD1⟩ := hB
  rw [ht] at hP1
  obtain ⟨hP, hD⟩ := va_join (wr := [(ob, .inr (3, [.ref oba, .ref ob_1])), (ob_1, .inl (k 2, 1000, .inr (.inl obg1))), (tn_6, .inl (k 0, 10, .inl tng6))]) (w1 := [(oba, .inr (1, [.ref oba_0, .int o_5, .int o_6])), (oba_0, .inl (k 0, 8, .inl o_7)), (tn, .inr (10, [.int tnv0, .int tnv1, .int tnv2, .ref tn_3, .ref tn_4, .ref tn_5, .ref tn_6, .int tnv7, .int tnv8, .ref tn_9, .ref tn_10, .int tnv11, .ref tn_12, .ref tn_13, .ref tn_14, .ref tn_15, .int tnv16, .ref tn_17, .ref tn_18, .ref tnt])), (tn_3, .inl (k 0, 10, .inl tng3)), (tn_4, .inl (k 0, 10, .inl tng4)), (tn_5, .inl (k 0, 10, .inl tng5)), (tn_9, .inl (k 0, 4, .inl tng9)), (tn_10, .inl (k 0, 4, .inl tng10))]) hP hD [1, 2, 10, 4, 5, 6, 8, 9] [0, 3, 7] rfl rfl (by decide +kernel) (by decide +kernel) hk1 hFc hP1 hD1
  clear hK1 hP1 hD1 hPc hDc hFc
  clear hk1 hz1 ht hvm
  have hP : va_P D vwCl [(ob, .inr (3, [.ref oba, .ref ob_1])), (ob_1, .inl (k 2, 1000, .inr (.inl obg1))), (tn_6, .inl (k 0, 10, .inl tng6)), (oba, .inr (1, [.ref oba_0, .int o_5, .int o_6])), (oba_0, .inl (k 0, 8, .inl o_7)), (tn, .inr (10, [.int tnv0, .int tnv1, .int tnv2, .ref tn_3, .ref tn_4, .ref tn_5, .ref tn_6, .int tnv7, .int tnv8, .ref tn_9, .ref tn_10, .int tnv11, .ref tn_12, .ref tn_13, .ref tn_14, .ref tn_15, .int tnv16, .ref tn_17, .ref tn_18, .ref tnt])), (tn_3, .inl (k 0, 10, .inl tng3)), (tn_4, .inl (k 0, 10, .inl tng4)), (tn_5, .inl (k 0, 10, .inl tng5)), (tn_9, .inl (k 0, 4, .inl tng9)), (tn_10, .inl (k 0, 4, .inl tng10))] H1 := hP
  have hD : va_D A [(ob, .inr (3, [.ref oba, .ref ob_1])), (ob_1, .inl (k 2, 1000, .inr (.inl obg1))), (tn_6, .inl (k 0, 10, .inl tng6)), (oba, .inr (1, [.ref oba_0, .int o_5, .int o_6])), (oba_0, .inl (k 0, 8, .inl o_7)), (tn, .inr (10, [.int tnv0, .int tnv1, .int tnv2, .ref tn_3, .ref tn_4, .ref tn_5, .ref tn_6, .int tnv7, .int tnv8, .ref tn_9, .ref tn_10, .int tnv11, .ref tn_12, .ref tn_13, .ref tn_14, .ref tn_15, .int tnv16, .ref tn_17, .ref tn_18, .ref tnt])), (tn_3, .inl (k 0, 10, .inl tng3)), (tn_4, .inl (k 0, 10, .inl tng4)), (tn_5, .inl (k 0, 10, .inl tng5)), (tn_9, .inl (k 0, 4, .inl tng9)), (tn_10, .inl (k 0, 4, .inl tng10))] := hD
  generalize H1 = H at hP hS ⊢
  have hw_8 : (PR 8 1 0 0 1000000 o_7) := hw
  have hw_9 := hw_8
  clear hw
  refine lv_aload_n hx hb dX3_weighLanes_14 rfl (lv_at hl 0 rfl) ?_
  refine va_get (D := D) (ci := 3) (v := .ref oba) (C := RX3) (T := TX3) (N := 2) hx hb hts iT_X3 hown hK hP 0 rfl rfl 0 (by decide) (hts _ tw_2_163) (fun _ h9 => h9) rfl dX3_weighLanes_15 ?_
  refine va_get (D := D) (ci := 1) (v := .ref oba_0) (C := RX1) (T := TX1) (N := 3) hx hb hts iT_X1 hown hK hP 3 rfl rfl 0 (by decide) (hts _ tw_2_21) (fun _ h9 => h9) rfl dX3_weighLanes_18 ?_
  refine lv_iload_n hx hb dX3_weighLanes_21 rfl (lv_at hl 2 rfl) ?_
  refine va_iald hx hb hK hP 4 0 rfl rfl (z_in (by omega) (by omega)) dX3_weighLanes_22 ?_
  refine lv_topi (fun x_10 ex_10 => ?_)
  have zx_10r0 : 0 ≤ x_10.toInt ∧ x_10.toInt ≤ 1000000 := by rw [ex_10]; exact PR.ld hw_9 (by omega) (by omega) (by omega)
  refine lv_istore (lv' := [(8, .int x_10), (0, .ref ob), (1, .ref tn), (2, .int p1), (3, .int p2), (4, .int p3), (5, .long p4), (7, .int 9)]) hx hb dX3_weighLanes_23 hl (by decide) rfl (fun ls hl => ?_)
  refine lv_iload hx hb dX3_weighLanes_25 (lv_at hl 0 rfl) ?_
  refine lv_sipush (v := 1000) hx hb dX3_weighLanes_27 (by decide) ?_
  refine lv_icmp_lt (tgt := 34) hx hb dX3_weighLanes_30 (by decide) (fun h_11 => ?_) (fun h_11 => ?_)
  · skip
    have zh_11 : x_10.toInt < 1000 := z_lt h_11
    refine lv_aload_n hx hb dX3_weighLanes_34 rfl (lv_at hl 1 rfl) ?_
    refine va_get (D := D) (ci := 3) (v := .ref oba) (C := RX3) (T := TX3) (N := 2) hx hb hts iT_X3 hown hK hP 0 rfl rfl 0 (by decide) (hts _ tw_2_163) (fun _ h9 => h9) rfl dX3_weighLanes_35 ?_
    refine lv_aload_n hx hb dX3_weighLanes_38 rfl (lv_at hl 2 rfl) ?_
    refine lv_iload_n hx hb dX3_weighLanes_39 rfl (lv_at hl 3 rfl) ?_
    obtain ⟨hPc, hDc, hFc⟩ := sub3 hP hD hS hA (ws' := [(oba, .inr (1, [.ref oba_0, .int o_5, .int o_6])), (oba_0, .inl (k 0, 8, .inl o_7)), (tn, .inr (10, [.int tnv0, .int tnv1, .int tnv2, .ref tn_3, .ref tn_4, .ref tn_5, .ref tn_6, .int tnv7, .int tnv8, .ref tn_9, .ref tn_10, .int tnv11, .ref tn_12, .ref tn_13, .ref tn_14, .ref tn_15, .int tnv16, .ref tn_17, .ref tn_18, .ref tnt])), (tn_3, .inl (k 0, 10, .inl tng3)), (tn_4, .inl (k 0, 10, .inl tng4)), (tn_5, .inl (k 0, 10, .inl tng5)), (tn_9, .inl (k 0, 4, .inl tng9)), (tn_10, .inl (k 0, 4, .inl tng10))]) [3, 4, 5, 6, 7, 8, 9, 10] (by decide +kernel) rfl
    refine va_calli (va_runV (C := RX1) (As := [.ref tn, .int p1]) (rest := []) ⟨hx, hb, hml, hown, hts⟩ (c_X1_wayTo l D k oba tn p1 oba_0 o_5 o_6 o_7 tnv0 tnv1 tnv2 tn_3 tn_4 tn_5 tn_6 tnv7 tnv8 tn_9 tn_10 tnv11 tn_12 tn_13 tn_14 tn_15 tnv16 tn_17 tn_18 tnt tng3 tng4 tng5 tng9 tng10 H.size (show 0 ≤ p1.toInt ∧ p1.toInt ≤ 7 from by omega) hw_9 (show 0 ≤ tnv0.toInt ∧ tnv0.toInt ≤ 8 from by omega) (show 0 ≤ tnv2.toInt ∧ tnv2.toInt ≤ 10 from by omega) (show 0 ≤ tnv8.toInt ∧ tnv8.toInt ≤ 4 from by omega) (show 0 ≤ tnv11.toInt ∧ tnv11.toInt ≤ 6 from by omega) (show 0 ≤ tnv16.toInt ∧ tnv16.toInt ≤ 2 from by omega) hp_tng3_0 hp_tng4_0 hp_tng5_0 hp_tng9_0 hp_tng10_0) (cwV 2 hts (gV tw_5_157 tw_4_96 tw_4_97 tw_1_6 tw_4_98) rfl rfl rfl hdV_X1_wayTo ⟨Nat.le_of_ble_eq_true rfl, Nat.le_of_ble_eq_true rfl⟩) (cz_V hK hPc hDc hN (ci := 1) (q0 := 0) rfl rfl [.ref tn, .int p1]) rfl rfl hl.1 rfl (lv_room (Nat.le_of_ble_eq_true rfl)) dX3_weighLanes_40 ⟨Nat.le_of_ble_eq_true rfl, Nat.le_of_ble_eq_true rfl⟩) hS (fun q _ h => hFc q h) hFc (fun r_12 uZ tZ H1 locs ht hvm hw hB hz1 hk1 hS => ?_)
    obtain ⟨hP1, hK1, hD1⟩ := hB
    rw [ht] at hP1
    obtain ⟨hP, hD⟩ := va_join (wr := [(ob, .inr (3, [.ref oba, .ref ob_1])), (ob_1, .inl (k 2, 1000, .inr (.inl obg1))), (tn_6, .inl (k 0, 10, .inl tng6))]) (w1 := [(oba, .inr (1, [.ref oba_0, .int o_5, .int o_6])), (oba_0, .inl (k 0, 8, .inl o_7)), (tn, .inr (10, [.int tnv0, .int tnv1, .int tnv2, .ref tn_3, .ref tn_4, .ref tn_5, .ref tn_6, .int tnv7, .int tnv8, .ref tn_9, .ref tn_10, .int tnv11, .ref tn_12, .ref tn_13, .ref tn_14, .ref tn_15, .int tnv16, .ref tn_17, .ref tn_18, .ref tnt])), (tn_3, .inl (k 0, 10, .inl tng3)), (tn_4, .inl (k 0, 10, .inl tng4)), (tn_5, .inl (k 0, 10, .inl tng5)), (tn_9, .inl (k 0, 4, .inl tng9)), (tn_10, .inl (k 0, 4, .inl tng10))]) hP hD [3, 4, 5, 6, 7, 8, 9, 10] [0, 1, 2] rfl rfl (by decide +kernel) (by decide +kernel) hk1 hFc hP1 hD1
    clear hK1 hP1 hD1 hPc hDc hFc
    clear hk1 hz1 ht hvm
    have hP : va_P D vwCl [(ob, .inr (3, [.ref oba, .ref ob_1])), (ob_1, .inl (k 2, 1000, .inr (.inl obg1))), (tn_6, .inl (k 0, 10, .inl tng6)), (oba, .inr (1, [.ref oba_0, .int o_5, .int o_6])), (oba_0, .inl (k 0, 8, .inl o_7)), (tn, .inr (10, [.int tnv0, .int tnv1, .int tnv2, .ref tn_3, .ref tn_4, .ref tn_5, .ref tn_6, .int tnv7, .int tnv8, .ref tn_9, .ref tn_10, .int tnv11, .ref tn_12, .ref tn_13, .ref tn_14, .ref tn_15, .int tnv16, .ref tn_17, .ref tn_18, .ref tnt])), (tn_3, .inl (k 0, 10, .inl tng3)), (tn_4, .inl (k 0, 10, .inl tng4)), (tn_5, .inl (k 0, 10, .inl tng5)), (tn_9, .inl (k 0, 4, .inl tng9)), (tn_10, .inl (k 0, 4, .inl tng10))] H1 := hP
    have hD : va_D A [(ob, .inr (3, [.ref oba, .ref ob_1])), (ob_1, .inl (k 2, 1000, .inr (.inl obg1))), (tn_6, .inl (k 0, 10, .inl tng6)), (oba, .inr (1, [.ref oba_0, .int o_5, .int o_6])), (oba_0, .inl (k 0, 8, .inl o_7)), (tn, .inr (10, [.int tnv0, .int tnv1, .int tnv2, .ref tn_3, .ref tn_4, .ref tn_5, .ref tn_6, .int tnv7, .int tnv8, .ref tn_9, .ref tn_10, .int tnv11, .ref tn_12, .ref tn_13, .ref tn_14, .ref tn_15, .int tnv16, .ref tn_17, .ref tn_18, .ref tnt])), (tn_3, .inl (k 0, 10, .inl tng3)), (tn_4, .inl (k 0, 10, .inl tng4)), (tn_5, .inl (k 0, 10, .inl tng5)), (tn_9, .inl (k 0, 4, .inl tng9)), (tn_10, .inl (k 0, 4, .inl tng10))] := hD
    generalize H1 = H at hP hS ⊢
    have hw_13 : (0 ≤ r_12.toInt ∧ r_12.toInt ≤ 1023) := hw
    have hw_14 := hw_13
    clear hw
    refine lv_iload_n hx hb dX3_weighLanes_43 rfl (lv_at hl 4 rfl) ?_
    refine lv_iconst (v := (-1)) hx hb dX3_weighLanes_44 (by decide) ?_
    refine lv_ixor hx hb dX3_weighLanes_45 ?_
    refine lv_topi (fun x_15 ex_15 => ?_)
    have zrp2 := z_rng p2
    refine lv_iand hx hb dX3_weighLanes_46 ?_
    refine lv_topi (fun x_16 ex_16 => ?_)
    have zrx_15 := z_rng x_15
    have zx_16 : 0 ≤ x_16.toInt ∧ x_16.toInt ≤ r_12.toInt := by rw [ex_16]; exact z_andL (by omega)
    refine lv_istore (lv' := [(9, .int x_16), (8, .int x_10), (0, .ref ob), (1, .ref tn), (2, .int p1), (3, .int p2), (4, .int p3), (5, .long p4), (7, .int 9)]) hx hb dX3_weighLanes_47 hl (by decide) rfl (fun ls hl => ?_)
    refine lv_iload hx hb dX3_weighLanes_49 (lv_at hl 0 rfl) ?_
    refine lv_iload hx hb dX3_weighLanes_51 (lv_at hl 0 rfl) ?_
    refine lv_ineg hx hb dX3_weighLanes_53 ?_
    refine lv_topi (fun x_17 ex_17 => ?_)
    refine lv_iand hx hb dX3_weighLanes_54 ?_
    refine lv_topi (fun x_18 ex_18 => ?_)
    have zrx_17 := z_rng x_17
    have zx_18 : 0 ≤ x_18.toInt ∧ x_18.toInt ≤ x_16.toInt := by rw [ex_18]; exact z_andL (by omega)
    refine lv_iconst (v := 1) hx hb dX3_weighLanes_55 (by decide) ?_
    refine lv_isub hx hb dX3_weighLanes_56 ?_
    refine lv_topi (fun x_19 ex_19 => ?_)
    have zx_19 : x_19.toInt = x_18.toInt - 1 := by rw [ex_19]; exact z_sub rfl rfl (by omega) (by omega)
    obtain ⟨hPc, hDc, hFc⟩ := sub3 hP hD hS hA (ws' := []) [] (by decide +kernel) rfl
    refine va_calli (va_runS (As := [.int x_19]) (rest := []) ⟨hx, hb, hml, hown, hts⟩ (c_J6_bitCount_0f7a4 l D k x_19 H.size) (va_cwS 1 hts (gS tw_5_158 tw_4_101 tw_1_20 tw_4_102) rfl rfl rfl hdS_J6_bitCount_0f7a4 ⟨Nat.le_of_ble_eq_true rfl, Nat.le_of_ble_eq_true rfl⟩) (cz_S hK hPc hDc hN [.int x_19]) rfl rfl hl.1 rfl (lv_room (Nat.le_of_ble_eq_true rfl)) dX3_weighLanes_57 ⟨Nat.le_of_ble_eq_true rfl, Nat.le_of_ble_eq_true rfl⟩) hS (fun q _ h => hFc q h) hFc (fun r_20 uZ tZ H1 locs ht hvm hw hB hz1 hk1 hS => ?_)
    obtain ⟨hP1, hK1, hD1⟩ := hB
    rw [ht] at hP1
    obtain ⟨hP, hD⟩ := va_join (wr := [(ob, .inr (3, [.ref oba, .ref ob_1])), (ob_1, .inl (k 2, 1000, .inr (.inl obg1))), (tn_6, .inl (k 0, 10, .inl tng6)), (oba, .inr (1, [.ref oba_0, .int o_5, .int o_6])), (oba_0, .inl (k 0, 8, .inl o_7)), (tn, .inr (10, [.int tnv0, .int tnv1, .int tnv2, .ref tn_3, .ref tn_4, .ref tn_5, .ref tn_6, .int tnv7, .int tnv8, .ref tn_9, .ref tn_10, .int tnv11, .ref tn_12, .ref tn_13, .ref tn_14, .ref tn_15, .int tnv16, .ref tn_17, .ref tn_18, .ref tnt])), (tn_3, .inl (k 0, 10, .inl tng3)), (tn_4, .inl (k 0, 10, .inl tng4)), (tn_5, .inl (k 0, 10, .inl tng5)), (tn_9, .inl (k 0, 4, .inl tng9)), (tn_10, .inl (k 0, 4, .inl tng10))]) (w1 := []) hP hD [] [0, 1, 2, 3, 4, 5, 6, 7, 8, 9, 10] rfl rfl (by decide +kernel) (by decide +kernel) hk1 hFc hP1 hD1
    clear hK1 hP1 hD1 hPc hDc hFc
    clear hk1 hz1 ht hvm
    have hP : va_P D vwCl [(ob, .inr (3, [.ref oba, .ref ob_1])), (ob_1, .inl (k 2, 1000, .inr (.inl obg1))), (tn_6, .inl (k 0, 10, .inl tng6)), (oba, .inr (1, [.ref oba_0, .int o_5, .int o_6])), (oba_0, .inl (k 0, 8, .inl o_7)), (tn, .inr (10, [.int tnv0, .int tnv1, .int tnv2, .ref tn_3, .ref tn_4, .ref tn_5, .ref tn_6, .int tnv7, .int tnv8, .ref tn_9, .ref tn_10, .int tnv11, .ref tn_12, .ref tn_13, .ref tn_14, .ref tn_15, .int tnv16, .ref tn_17, .ref tn_18, .ref tnt])), (tn_3, .inl (k 0, 10, .inl tng3)), (tn_4, .inl (k 0, 10, .inl tng4)), (tn_5, .inl (k 0, 10, .inl tng5)), (tn_9, .inl (k 0, 4, .inl tng9)), (tn_10, .inl (k 0, 4, .inl tng10))] H1 := hP
    have hD : va_D A [(ob, .inr (3, [.ref oba, .ref ob_1])), (ob_1, .inl (k 2, 1000, .inr (.inl obg1))), (tn_6, .inl (k 0, 10, .inl tng6)), (oba, .inr (1, [.ref oba_0, .int o_5, .int o_6])), (oba_0, .inl (k 0, 8, .inl o_7)), (tn, .inr (10, [.int tnv0, .int tnv1, .int tnv2, .ref tn_3, .ref tn_4, .ref tn_5, .ref tn_6, .int tnv7, .int tnv8, .ref tn_9, .ref tn_10, .int tnv11, .ref tn_12, .ref tn_13, .ref tn_14, .ref tn_15, .int tnv16, .ref tn_17, .ref tn_18, .ref tnt])), (tn_3, .inl (k 0, 10, .inl tng3)), (tn_4, .inl (k 0, 10, .inl tng4)), (tn_5, .inl (k 0, 10, .inl tng5)), (tn_9, .inl (k 0, 4, .inl tng9)), (tn_10, .inl (k 0, 4, .inl tng10))] := hD
    generalize H1 = H at hP hS ⊢
    have hw_21 : (0 ≤ r_20.toInt ∧ r_20.toInt ≤ 63) := hw
    have hw_22 := hw_21
    clear hw
    refine lv_istore (lv' := [(10, .int r_20), (9, .int x_16), (8, .int x_10), (0, .ref ob), (1, .ref tn), (2, .int p1), (3, .int p2), (4, .int p3), (5, .long p4), (7, .int 9)]) hx hb dX3_weighLanes_60 hl (by decide) rfl (fun ls hl => ?_)
    refine lv_iload hx hb dX3_weighLanes_62 (lv_at hl 1 rfl) ?_
    refine lv_if_eq (tgt := 81) hx hb dX3_weighLanes_64 (by decide) (fun h_23 => ?_) (fun h_23 => ?_)
    · skip
      have zh_23 : x_16.toInt = 0 := z_eq h_23
      refine lv_aload_n hx hb dX3_weighLanes_81 rfl (lv_at hl 3 rfl) ?_
      refine va_get (D := D) (ci := 3) (v := .ref ob_1) (C := RX3) (T := TX3) (N := 2) hx hb hts iT_X3 hown hK hP 0 rfl rfl 1 (by decide) (hts _ tw_2_164) (fun _ h9 => h9) rfl dX3_weighLanes_82 ?_
      refine lv_iload hx hb dX3_weighLanes_85 (lv_at hl 2 rfl) ?_
      refine lv_dup2_11 hx hb dX3_weighLanes_87 rfl rfl ?_
      refine va_lald hx hb hK hP 1 2 rfl rfl (z_in (by omega) (by omega)) dX3_weighLanes_88 ?_
      refine lv_topl (fun x_24 ex_24 => ?_)
      refine lv_lload hx hb dX3_weighLanes_89 (lv_at hl 8 rfl) ?_
      refine lv_ladd hx hb dX3_weighLanes_91 ?_
      refine lv_topl (fun x_25 ex_25 => ?_)
      refine va_last hx hb hK hP hD hS 1 2 rfl rfl (z_in (by omega) (by omega)) dX3_weighLanes_92 (fun H locs hP hD hS => ?_)
      obtain ⟨g_26, eg_26⟩ : ∃ z : Nat → Int64, vp_updL obg1 x_10.toNatClampNeg x_25 = z := ⟨_, rfl⟩
      have hP : va_P D vwCl [(ob, .inr (3, [.ref oba, .ref ob_1])), (ob_1, .inl (k 2, 1000, .inr (.inl (vp_updL obg1 x_10.toNatClampNeg x_25)))), (tn_6, .inl (k 0, 10, .inl tng6)), (oba, .inr (1, [.ref oba_0, .int o_5, .int o_6])), (oba_0, .inl (k 0, 8, .inl o_7)), (tn, .inr (10, [.int tnv0, .int tnv1, .int tnv2, .ref tn_3, .ref tn_4, .ref tn_5, .ref tn_6, .int tnv7, .int tnv8, .ref tn_9, .ref tn_10, .int tnv11, .ref tn_12, .ref tn_13, .ref tn_14, .ref tn_15, .int tnv16, .ref tn_17, .ref tn_18, .ref tnt])), (tn_3, .inl (k 0, 10, .inl tng3)), (tn_4, .inl (k 0, 10, .inl tng4)), (tn_5, .inl (k 0, 10, .inl tng5)), (tn_9, .inl (k 0, 4, .inl tng9)), (tn_10, .inl (k 0, 4, .inl tng10))] H := hP
      have hD : va_D A [(ob, .inr (3, [.ref oba, .ref ob_1])), (ob_1, .inl (k 2, 1000, .inr (.inl (vp_updL obg1 x_10.toNatClampNeg x_25)))), (tn_6, .inl (k 0, 10, .inl tng6)), (oba, .inr (1, [.ref oba_0, .int o_5, .int o_6])), (oba_0, .inl (k 0, 8, .inl o_7)), (tn, .inr (10, [.int tnv0, .int tnv1, .int tnv2, .ref tn_3, .ref tn_4, .ref tn_5, .ref tn_6, .int tnv7, .int tnv8, .ref tn_9, .ref tn_10, .int tnv11, .ref tn_12, .ref tn_13, .ref tn_14, .ref tn_15, .int tnv16, .ref tn_17, .ref tn_18, .ref tnt])), (tn_3, .inl (k 0, 10, .inl tng3)), (tn_4, .inl (k 0, 10, .inl tng4)), (tn_5, .inl (k 0, 10, .inl tng5)), (tn_9, .inl (k 0, 4, .inl tng9)), (tn_10, .inl (k 0, 4, .inl tng10))] := hD
      rw [eg_26] at hP hD
      obtain ⟨hP9, hD9⟩ := sub2 hP hD (ws' := [(ob, .inr (3, [.ref oba, .ref ob_1])), (oba, .inr (1, [.ref oba_0, .int o_5, .int o_6])), (oba_0, .inl (k 0, 8, .inl o_7)), (ob_1, .inl (k 2, 1000, .inr (.inl g_26))), (tn, .inr (10, [.int tnv0, .int tnv1, .int tnv2, .ref tn_3, .ref tn_4, .ref tn_5, .ref tn_6, .int tnv7, .int tnv8, .ref tn_9, .ref tn_10, .int tnv11, .ref tn_12, .ref tn_13, .ref tn_14, .ref tn_15, .int tnv16, .ref tn_17, .ref tn_18, .ref tnt])), (tn_3, .inl (k 0, 10, .inl tng3)), (tn_4, .inl (k 0, 10, .inl tng4)), (tn_5, .inl (k 0, 10, .inl tng5)), (tn_6, .inl (k 0, 10, .inl tng6)), (tn_9, .inl (k 0, 4, .inl tng9)), (tn_10, .inl (k 0, 4, .inl tng10))]) [0, 3, 4, 1, 5, 6, 7, 8, 2, 9, 10] (by decide +kernel) rfl
      exact W.vret hx hb hr (fun tZ ht hW => ⟨⟨(o_5, o_6, o_7, g_26), rfl, hw_9, by rw [ht]; exact hP9, va_K.moved hW.alike hK, hD9⟩, hS.F ht⟩) hS.2.2 dX3_weighLanes_93
    · skip
      have zh_23 : ¬ x_16.toInt = 0 := z_ne h_23
      refine lv_iload hx hb dX3_weighLanes_67 (lv_at hl 0 rfl) ?_
      refine lv_bipush (v := 10) hx hb dX3_weighLanes_69 (by decide) ?_
      refine lv_icmp_ge (tgt := 81) hx hb dX3_weighLanes_71 (by decide) (fun h_27 => ?_) (fun h_27 => ?_)
      · skip
        have zh_27 : 10 ≤ r_20.toInt := z_le h_27
        refine lv_aload_n hx hb dX3_weighLanes_81 rfl (lv_at hl 3 rfl) ?_
        refine va_get (D := D) (ci := 3) (v := .ref ob_1) (C := RX3) (T := TX3) (N := 2) hx hb hts iT_X3 hown hK hP 0 rfl rfl 1 (by decide) (hts _ tw_2_164) (fun _ h9 => h9) rfl dX3_weighLanes_82 ?_
        refine lv_iload hx hb dX3_weighLanes_85 (lv_at hl 2 rfl) ?_
        refine lv_dup2_11 hx hb dX3_weighLanes_87 rfl rfl ?_
        refine va_lald hx hb hK hP 1 2 rfl rfl (z_in (by omega) (by omega)) dX3_weighLanes_88 ?_
        refine lv_topl (fun x_28 ex_28 => ?_)
        refine lv_lload hx hb dX3_weighLanes_89 (lv_at hl 8 rfl) ?_
        refine lv_ladd hx hb dX3_weighLanes_91 ?_
        refine lv_topl (fun x_29 ex_29 => ?_)
        refine va_last hx hb hK hP hD hS 1 2 rfl rfl (z_in (by omega) (by omega)) dX3_weighLanes_92 (fun H locs hP hD hS => ?_)
        obtain ⟨g_30, eg_30⟩ : ∃ z : Nat → Int64, vp_updL obg1 x_10.toNatClampNeg x_29 = z := ⟨_, rfl⟩
        have hP : va_P D vwCl [(ob, .inr (3, [.ref oba, .ref ob_1])), (ob_1, .inl (k 2, 1000, .inr (.inl (vp_updL obg1 x_10.toNatClampNeg x_29)))), (tn_6, .inl (k 0, 10, .inl tng6)), (oba, .inr (1, [.ref oba_0, .int o_5, .int o_6])), (oba_0, .inl (k 0, 8, .inl o_7)), (tn, .inr (10, [.int tnv0, .int tnv1, .int tnv2, .ref tn_3, .ref tn_4, .ref tn_5, .ref tn_6, .int tnv7, .int tnv8, .ref tn_9, .ref tn_10, .int tnv11, .ref tn_12, .ref tn_13, .ref tn_14, .ref tn_15, .int tnv16, .ref tn_17, .ref tn_18, .ref tnt])), (tn_3, .inl (k 0, 10, .inl tng3)), (tn_4, .inl (k 0, 10, .inl tng4)), (tn_5, .inl (k 0, 10, .inl tng5)), (tn_9, .inl (k 0, 4, .inl tng9)), (tn_10, .inl (k 0, 4, .inl tng10))] H := hP
        have hD : va_D A [(ob, .inr (3, [.ref oba, .ref ob_1])), (ob_1, .inl (k 2, 1000, .inr (.inl (vp_updL obg1 x_10.toNatClampNeg x_29)))), (tn_6, .inl (k 0, 10, .inl tng6)), (oba, .inr (1, [.ref oba_0, .int o_5, .int o_6])), (oba_0, .inl (k 0, 8, .inl o_7)), (tn, .inr (10, [.int tnv0, .int tnv1, .int tnv2, .ref tn_3, .ref tn_4, .ref tn_5, .ref tn_6, .int tnv7, .int tnv8, .ref tn_9, .ref tn_10, .int tnv11, .ref tn_12, .ref tn_13, .ref tn_14, .ref tn_15, .int tnv16, .ref tn_17, .ref tn_18, .ref tnt])), (tn_3, .inl (k 0, 10, .inl tng3)), (tn_4, .inl (k 0, 10, .inl tng4)), (tn_5, .inl (k 0, 10, .inl tng5)), (tn_9, .inl (k 0, 4, .inl tng9)), (tn_10, .inl (k 0, 4, .inl tng10))] := hD
        rw [eg_30] at hP hD
        obtain ⟨hP9, hD9⟩ := sub2 hP hD (ws' := [(ob, .inr (3, [.ref oba, .ref ob_1])), (oba, .inr (1, [.ref oba_0, .int o_5, .int o_6])), (oba_0, .inl (k 0, 8, .inl o_7)), (ob_1, .inl (k 2, 1000, .inr (.inl g_30))), (tn, .inr (10, [.int tnv0, .int tnv1, .int tnv2, .ref tn_3, .ref tn_4, .ref tn_5, .ref tn_6, .int tnv7, .int tnv8, .ref tn_9, .ref tn_10, .int tnv11, .ref tn_12, .ref tn_13, .ref tn_14, .ref tn_15, .int tnv16, .ref tn_17, .ref tn_18, .ref tnt])), (tn_3, .inl (k 0, 10, .inl tng3)), (tn_4, .inl (k 0, 10, .inl tng4)), (tn_5, .inl (k 0, 10, .inl tng5)), (tn_6, .inl (k 0, 10, .inl tng6)), (tn_9, .inl (k 0, 4, .inl tng9)), (tn_10, .inl (k 0, 4, .inl tng10))]) [0, 3, 4, 1, 5, 6, 7, 8, 2, 9, 10] (by decide +kernel) rfl
        exact W.vret hx hb hr (fun tZ ht hW => ⟨⟨(o_5, o_6, o_7, g_30), rfl, hw_9, by rw [ht]; exact hP9, va_K.moved hW.alike hK, hD9⟩, hS.F ht⟩) hS.2.2 dX3_weighLanes_93
      · skip
        have zh_27 : r_20.toInt < 10 := z_nle h_27
        refine lv_iload hx hb dX3_weighLanes_74 (lv_at hl 9 rfl) ?_
        refine lv_bipush (v := 10) hx hb dX3_weighLanes_76 (by decide) ?_
        refine lv_icmp_lt (tgt := 94) hx hb dX3_weighLanes_78 (by decide) (fun _ => ?_) (fun c9 => absurd c9 (by decide))
        refine lv_iconst (v := 1) hx hb dX3_weighLanes_94 (by decide) ?_
        refine lv_iload hx hb dX3_weighLanes_95 (lv_at hl 0 rfl) ?_
        refine lv_ishl hx hb dX3_weighLanes_97 ?_
        refine lv_topi (fun x_31 ex_31 => ?_)
        have zx_31 : 1 ≤ x_31.toInt ∧ x_31.toInt ≤ 512 := by rw [ex_31]; exact z_shl1 9 512 rfl (by decide) (by omega) (by omega)
        refine lv_istore (lv' := [(11, .int x_31), (10, .int r_20), (9, .int x_16), (8, .int x_10), (0, .ref ob), (1, .ref tn), (2, .int p1), (3, .int p2), (4, .int p3), (5, .long p4), (7, .int 9)]) hx hb dX3_weighLanes_98 hl (by decide) rfl (fun ls hl => ?_)
        refine lv_lload hx hb dX3_weighLanes_100 (lv_at hl 9 rfl) ?_
        refine lv_ldc2 (v := 10) hx hb hown (hts _ tw_5_159) dX3_weighLanes_102 ?_
        refine lv_ldiv hx hb dX3_weighLanes_105 (by decide) ?_
        refine lv_topl (fun x_32 ex_32 => ?_)
        refine lv_lstore (lv' := [(12, .long x_32), (11, .int x_31), (10, .int r_20), (9, .int x_16), (8, .int x_10), (0, .ref ob), (1, .ref tn), (2, .int p1), (3, .int p2), (4, .int p3), (5, .long p4), (7, .int 9)]) hx hb dX3_weighLanes_106 hl (by decide) rfl (fun ls hl => ?_)
        refine lv_aload_n hx hb dX3_weighLanes_108 rfl (lv_at hl 5 rfl) ?_
        refine lv_aload_n hx hb dX3_weighLanes_109 rfl (lv_at hl 6 rfl) ?_
        refine lv_iload_n hx hb dX3_weighLanes_110 rfl (lv_at hl 7 rfl) ?_
        refine lv_iload_n hx hb dX3_weighLanes_111 rfl (lv_at hl 8 rfl) ?_
        refine lv_iload hx hb dX3_weighLanes_112 (lv_at hl 1 rfl) ?_
        refine lv_ior hx hb dX3_weighLanes_114 ?_
        refine lv_topi (fun x_33 ex_33 => ?_)
        refine lv_iload hx hb dX3_weighLanes_115 (lv_at hl 9 rfl) ?_
        refine lv_lload hx hb dX3_weighLanes_117 (lv_at hl 0 rfl) ?_
        refine lv_bipush (v := 10) hx hb dX3_weighLanes_119 (by decide) ?_
        refine lv_aload_n hx hb dX3_weighLanes_121 rfl (lv_at hl 6 rfl) ?_
        refine va_get (D := D) (ci := 10) (v := .ref tn_6) (C := RX10) (T := TX10) (N := 20) hx hb hts iT_X10 hown hK hP 5 rfl rfl 6 (by decide) (hts _ tw_1_98) (fun _ h9 => h9) rfl dX3_weighLanes_122 ?_
        refine lv_iload hx hb dX3_weighLanes_125 (lv_at hl 2 rfl) ?_
        refine va_iald hx hb hK hP 2 0 rfl rfl (z_in (by omega) (by omega)) dX3_weighLanes_127 ?_
        refine lv_topi (fun x_34 ex_34 => ?_)
        have zx_34r0 : 0 ≤ x_34.toInt ∧ x_34.toInt ≤ 10 := by rw [ex_34]; exact PR.ld hp_tng6_0 (by omega) (by omega) (by omega)
        refine lv_isub hx hb dX3_weighLanes_128 ?_
        refine lv_topi (fun x_35 ex_35 => ?_)
        have zx_35 : x_35.toInt = 10 - x_34.toInt := by rw [ex_35]; exact z_sub rfl rfl (by omega) (by omega)
        refine lv_i2l (v := x_35.toInt64) hx hb dX3_weighLanes_129 rfl ?_
        refine lv_lmul hx hb dX3_weighLanes_130 ?_
        refine lv_topl (fun x_36 ex_36 => ?_)
        refine lv_iload hx hb dX3_weighLanes_131 (lv_at hl 11 rfl) ?_
        refine lv_iconst (v := 1) hx hb dX3_weighLanes_133 (by decide) ?_
        refine lv_iadd hx hb dX3_weighLanes_134 ?_
        refine lv_topi (fun x_37 ex_37 => ?_)
        obtain rfl : x_37 = 10 := ex_37.trans (by decide)
        obtain ⟨hPc, hDc, hFc⟩ := sub3 hP hD hS hA (ws' := [(ob, .inr (3, [.ref oba, .ref ob_1])), (oba, .inr (1, [.ref oba_0, .int o_5, .int o_6])), (oba_0, .inl (k 0, 8, .inl o_7)), (ob_1, .inl (k 2, 1000, .inr (.inl obg1))), (tn, .inr (10, [.int tnv0, .int tnv1, .int tnv2, .ref tn_3, .ref tn_4, .ref tn_5, .ref tn_6, .int tnv7, .int tnv8, .ref tn_9, .ref tn_10, .int tnv11, .ref tn_12, .ref tn_13, .ref tn_14, .ref tn_15, .int tnv16, .ref tn_17, .ref tn_18, .ref tnt])), (tn_3, .inl (k 0, 10, .inl tng3)), (tn_4, .inl (k 0, 10, .inl tng4)), (tn_5, .inl (k 0, 10, .inl tng5)), (tn_9, .inl (k 0, 4, .inl tng9)), (tn_10, .inl (k 0, 4, .inl tng10))]) [0, 3, 4, 1, 5, 6, 7, 8, 9, 10] (by decide +kernel) rfl
        refine va_callv (va_runV (C := RX3) (As := [.ref tn, .int p1, .int x_33, .int p3, .long x_36, .int 10]) (rest := []) ⟨hx, hb, hml, hown, hts⟩ (c_X3_weighLanes_0 l D k ob tn p1 x_33 p3 x_36 oba ob_1 oba_0 o_5 o_6 o_7 obg1 tnv0 tnv1 tnv2 tn_3 tn_4 tn_5 tn_6 tnv7 tnv8 tn_9 tn_10 tnv11 tn_12 tn_13 tn_14 tn_15 tnv16 tn_17 tn_18 tnt tng3 tng4 tng5 tng9 tng10 H.size (show 0 ≤ p1.toInt ∧ p1.toInt ≤ 7 from by omega) hw_9 (show 0 ≤ tnv0.toInt ∧ tnv0.toInt ≤ 8 from by omega) (show 0 ≤ tnv2.toInt ∧ tnv2.toInt ≤ 10 from by omega) (show 0 ≤ tnv8.toInt ∧ tnv8.toInt ≤ 4 from by omega) (show 0 ≤ tnv11.toInt ∧ tnv11.toInt ≤ 6 from by omega) (show 0 ≤ tnv16.toInt ∧ tnv16.toInt ≤ 2 from by omega) hp_tng3_0 hp_tng4_0 hp_tng5_0 hp_tng9_0 hp_tng10_0) (cwV 6 hts (gV tw_5_151 tw_5_153 tw_p_34 tw_1_12 tw_5_154) rfl rfl rfl hdV_X3_weighLanes ⟨Nat.le_of_ble_eq_true rfl, Nat.le_of_ble_eq_true rfl⟩) (cz_V hK hPc hDc hN (ci := 3) (q0 := 0) rfl rfl [.ref tn, .int p1, .int x_33, .int p3, .long x_36, .int 10]) rfl rfl hl.1 rfl (lv_room (Nat.le_of_ble_eq_true rfl)) dX3_weighLanes_135 ⟨Nat.le_of_ble_eq_true rfl, Nat.le_of_ble_eq_true rfl⟩) hS (fun q _ h => hFc q h) hFc (fun uZ tZ H1 locs ht hvm hw hB hz1 hk1 hS => ?_)
        obtain ⟨o_39, o_40, o_41, o_42⟩ := uZ
        obtain ⟨hP1, hK1, hD1⟩ := hB
        rw [ht] at hP1
        obtain ⟨hP, hD⟩ := va_join (wr := [(tn_6, .inl (k 0, 10, .inl tng6))]) (w1 := [(ob, .inr (3, [.ref oba, .ref ob_1])), (oba, .inr (1, [.ref oba_0, .int o_39, .int o_40])), (oba_0, .inl (k 0, 8, .inl o_41)), (ob_1, .inl (k 2, 1000, .inr (.inl o_42))), (tn, .inr (10, [.int tnv0, .int tnv1, .int tnv2, .ref tn_3, .ref tn_4, .ref tn_5, .ref tn_6, .int tnv7, .int tnv8, .ref tn_9, .ref tn_10, .int tnv11, .ref tn_12, .ref tn_13, .ref tn_14, .ref tn_15, .int tnv16, .ref tn_17, .ref tn_18, .ref tnt])), (tn_3, .inl (k 0, 10, .inl tng3)), (tn_4, .inl (k 0, 10, .inl tng4)), (tn_5, .inl (k 0, 10, .inl tng5)), (tn_9, .inl (k 0, 4, .inl tng9)), (tn_10, .inl (k 0, 4, .inl tng10))]) hP hD [0, 3, 4, 1, 5, 6, 7, 8, 9, 10] [2] rfl rfl (by decide +kernel) (by decide +kernel) hk1 hFc hP1 hD1
        clear hK1 hP1 hD1 hPc hDc hFc
        clear hk1 hz1 ht hvm
        have hP : va_P D vwCl [(tn_6, .inl (k 0, 10, .inl tng6)), (ob, .inr (3, [.ref oba, .ref ob_1])), (oba, .inr (1, [.ref oba_0, .int o_39, .int o_40])), (oba_0, .inl (k 0, 8, .inl o_41)), (ob_1, .inl (k 2, 1000, .inr (.inl o_42))), (tn, .inr (10, [.int tnv0, .int tnv1, .int tnv2, .ref tn_3, .ref tn_4, .ref tn_5, .ref tn_6, .int tnv7, .int tnv8, .ref tn_9, .ref tn_10, .int tnv11, .ref tn_12, .ref tn_13, .ref tn_14, .ref tn_15, .int tnv16, .ref tn_17, .ref tn_18, .ref tnt])), (tn_3, .inl (k 0, 10, .inl tng3)), (tn_4, .inl (k 0, 10, .inl tng4)), (tn_5, .inl (k 0, 10, .inl tng5)), (tn_9, .inl (k 0, 4, .inl tng9)), (tn_10, .inl (k 0, 4, .inl tng10))] H1 := hP
        have hD : va_D A [(tn_6, .inl (k 0, 10, .inl tng6)), (ob, .inr (3, [.ref oba, .ref ob_1])), (oba, .inr (1, [.ref oba_0, .int o_39, .int o_40])), (oba_0, .inl (k 0, 8, .inl o_41)), (ob_1, .inl (k 2, 1000, .inr (.inl o_42))), (tn, .inr (10, [.int tnv0, .int tnv1, .int tnv2, .ref tn_3, .ref tn_4, .ref tn_5, .ref tn_6, .int tnv7, .int tnv8, .ref tn_9, .ref tn_10, .int tnv11, .ref tn_12, .ref tn_13, .ref tn_14, .ref tn_15, .int tnv16, .ref tn_17, .ref tn_18, .ref tnt])), (tn_3, .inl (k 0, 10, .inl tng3)), (tn_4, .inl (k 0, 10, .inl tng4)), (tn_5, .inl (k 0, 10, .inl tng5)), (tn_9, .inl (k 0, 4, .inl tng9)), (tn_10, .inl (k 0, 4, .inl tng10))] := hD
        generalize H1 = H at hP hS ⊢
        have hw_43 : (PR 8 1 0 0 1000000 o_41) := hw
        have hw_44 := hw_43
        clear hw
        refine lv_aload_n hx hb dX3_weighLanes_138 rfl (lv_at hl 5 rfl) ?_
        refine lv_aload_n hx hb dX3_weighLanes_139 rfl (lv_at hl 6 rfl) ?_
        refine lv_iload_n hx hb dX3_weighLanes_140 rfl (lv_at hl 7 rfl) ?_
        refine lv_iload_n hx hb dX3_weighLanes_141 rfl (lv_at hl 8 rfl) ?_
        refine lv_iload hx hb dX3_weighLanes_142 (lv_at hl 1 rfl) ?_
        refine lv_ior hx hb dX3_weighLanes_144 ?_
        refine lv_topi (fun x_45 ex_45 => ?_)
        obtain rfl : x_33 = x_45 := ex_33.trans ex_45.symm
        refine lv_iload hx hb dX3_weighLanes_145 (lv_at hl 9 rfl) ?_
        refine lv_iload hx hb dX3_weighLanes_147 (lv_at hl 1 rfl) ?_
        refine lv_ior hx hb dX3_weighLanes_149 ?_
        refine lv_topi (fun x_46 ex_46 => ?_)
        have zrp3 := z_rng p3
        refine lv_lload hx hb dX3_weighLanes_150 (lv_at hl 0 rfl) ?_
        refine lv_aload_n hx hb dX3_weighLanes_152 rfl (lv_at hl 6 rfl) ?_
        refine va_get (D := D) (ci := 10) (v := .ref tn_6) (C := RX10) (T := TX10) (N := 20) hx hb hts iT_X10 hown hK hP 5 rfl rfl 6 (by decide) (hts _ tw_1_98) (fun _ h9 => h9) rfl dX3_weighLanes_153 ?_
        refine lv_iload hx hb dX3_weighLanes_156 (lv_at hl 2 rfl) ?_
        refine va_iald hx hb hK hP 0 0 rfl rfl (z_in (by omega) (by omega)) dX3_weighLanes_158 ?_
        refine lv_topi (fun x_47 ex_47 => ?_)
        obtain rfl : x_34 = x_47 := ex_34.trans ex_47.symm
        refine lv_i2l (v := x_34.toInt64) hx hb dX3_weighLanes_159 rfl ?_
        refine lv_lmul hx hb dX3_weighLanes_160 ?_
        refine lv_topl (fun x_48 ex_48 => ?_)
        refine lv_iload hx hb dX3_weighLanes_161 (lv_at hl 11 rfl) ?_
        refine lv_iconst (v := 1) hx hb dX3_weighLanes_163 (by decide) ?_
        refine lv_iadd hx hb dX3_weighLanes_164 ?_
        refine lv_topi (fun x_49 ex_49 => ?_)
        obtain rfl : x_49 = 10 := ex_49.trans (by decide)
        obtain ⟨hPc, hDc, hFc⟩ := sub3 hP hD hS hA (ws' := [(ob, .inr (3, [.ref oba, .ref ob_1])), (oba, .inr (1, [.ref oba_0, .int o_39, .int o_40])), (oba_0, .inl (k 0, 8, .inl o_41)), (ob_1, .inl (k 2, 1000, .inr (.inl o_42))), (tn, .inr (10, [.int tnv0, .int tnv1, .int tnv2, .ref tn_3, .ref tn_4, .ref tn_5, .ref tn_6, .int tnv7, .int tnv8, .ref tn_9, .ref tn_10, .int tnv11, .ref tn_12, .ref tn_13, .ref tn_14, .ref tn_15, .int tnv16, .ref tn_17, .ref tn_18, .ref tnt])), (tn_3, .inl (k 0, 10, .inl tng3)), (tn_4, .inl (k 0, 10, .inl tng4)), (tn_5, .inl (k 0, 10, .inl tng5)), (tn_9, .inl (k 0, 4, .inl tng9)), (tn_10, .inl (k 0, 4, .inl tng10))]) [1, 2, 3, 4, 5, 6, 7, 8, 9, 10] (by decide +kernel) rfl
        refine va_callv (va_runV (C := RX3) (As := [.ref tn, .int p1, .int x_33, .int x_46, .long x_48, .int 10]) (rest := []) ⟨hx, hb, hml, hown, hts⟩ (c_X3_weighLanes_0 l D k ob tn p1 x_33 x_46 x_48 oba ob_1 oba_0 o_39 o_40 o_41 o_42 tnv0 tnv1 tnv2 tn_3 tn_4 tn_5 tn_6 tnv7 tnv8 tn_9 tn_10 tnv11 tn_12 tn_13 tn_14 tn_15 tnv16 tn_17 tn_18 tnt tng3 tng4 tng5 tng9 tng10 H.size (show 0 ≤ p1.toInt ∧ p1.toInt ≤ 7 from by omega) hw_44 (show 0 ≤ tnv0.toInt ∧ tnv0.toInt ≤ 8 from by omega) (show 0 ≤ tnv2.toInt ∧ tnv2.toInt ≤ 10 from by omega) (show 0 ≤ tnv8.toInt ∧ tnv8.toInt ≤ 4 from by omega) (show 0 ≤ tnv11.toInt ∧ tnv11.toInt ≤ 6 from by omega) (show 0 ≤ tnv16.toInt ∧ tnv16.toInt ≤ 2 from by omega) hp_tng3_0 hp_tng4_0 hp_tng5_0 hp_tng9_0 hp_tng10_0) (cwV 6 hts (gV tw_5_151 tw_5_153 tw_p_34 tw_1_12 tw_5_154) rfl rfl rfl hdV_X3_weighLanes ⟨Nat.le_of_ble_eq_true rfl, Nat.le_of_ble_eq_true rfl⟩) (cz_V hK hPc hDc hN (ci := 3) (q0 := 0) rfl rfl [.ref tn, .int p1, .int x_33, .int x_46, .long x_48, .int 10]) rfl rfl hl.1 rfl (lv_room (Nat.le_of_ble_eq_true rfl)) dX3_weighLanes_165 ⟨Nat.le_of_ble_eq_true rfl, Nat.le_of_ble_eq_true rfl⟩) hS (fun q _ h => hFc q h) hFc (fun uZ tZ H1 locs ht hvm hw hB hz1 hk1 hS => ?_)
        obtain ⟨o_51, o_52, o_53, o_54⟩ := uZ
        obtain ⟨hP1, hK1, hD1⟩ := hB
        rw [ht] at hP1
        obtain ⟨hP, hD⟩ := va_join (wr := [(tn_6, .inl (k 0, 10, .inl tng6))]) (w1 := [(ob, .inr (3, [.ref oba, .ref ob_1])), (oba, .inr (1, [.ref oba_0, .int o_51, .int o_52])), (oba_0, .inl (k 0, 8, .inl o_53)), (ob_1, .inl (k 2, 1000, .inr (.inl o_54))), (tn, .inr (10, [.int tnv0, .int tnv1, .int tnv2, .ref tn_3, .ref tn_4, .ref tn_5, .ref tn_6, .int tnv7, .int tnv8, .ref tn_9, .ref tn_10, .int tnv11, .ref tn_12, .ref tn_13, .ref tn_14, .ref tn_15, .int tnv16, .ref tn_17, .ref tn_18, .ref tnt])), (tn_3, .inl (k 0, 10, .inl tng3)), (tn_4, .inl (k 0, 10, .inl tng4)), (tn_5, .inl (k 0, 10, .inl tng5)), (tn_9, .inl (k 0, 4, .inl tng9)), (tn_10, .inl (k 0, 4, .inl tng10))]) hP hD [1, 2, 3, 4, 5, 6, 7, 8, 9, 10] [0] rfl rfl (by decide +kernel) (by decide +kernel) hk1 hFc hP1 hD1
        clear hK1 hP1 hD1 hPc hDc hFc
        clear hk1 hz1 ht hvm
        have hP : va_P D vwCl [(tn_6, .inl (k 0, 10, .inl tng6)), (ob, .inr (3, [.ref oba, .ref ob_1])), (oba, .inr (1, [.ref oba_0, .int o_51, .int o_52])), (oba_0, .inl (k 0, 8, .inl o_53)), (ob_1, .inl (k 2, 1000, .inr (.inl o_54))), (tn, .inr (10, [.int tnv0, .int tnv1, .int tnv2, .ref tn_3, .ref tn_4, .ref tn_5, .ref tn_6, .int tnv7, .int tnv8, .ref tn_9, .ref tn_10, .int tnv11, .ref tn_12, .ref tn_13, .ref tn_14, .ref tn_15, .int tnv16, .ref tn_17, .ref tn_18, .ref tnt])), (tn_3, .inl (k 0, 10, .inl tng3)), (tn_4, .inl (k 0, 10, .inl tng4)), (tn_5, .inl (k 0, 10, .inl tng5)), (tn_9, .inl (k 0, 4, .inl tng9)), (tn_10, .inl (k 0, 4, .inl tng10))] H1 := hP
        have hD : va_D A [(tn_6, .inl (k 0, 10, .inl tng6)), (ob, .inr (3, [.ref oba, .ref ob_1])), (oba, .inr (1, [.ref oba_0, .int o_51, .int o_52])), (oba_0, .inl (k 0, 8, .inl o_53)), (ob_1, .inl (k 2, 1000, .inr (.inl o_54))), (tn, .inr (10, [.int tnv0, .int tnv1, .int tnv2, .ref tn_3, .ref tn_4, .ref tn_5, .ref tn_6, .int tnv7, .int tnv8, .ref tn_9, .ref tn_10, .int tnv11, .ref tn_12, .ref tn_13, .ref tn_14, .ref tn_15, .int tnv16, .ref tn_17, .ref tn_18, .ref tnt])), (tn_3, .inl (k 0, 10, .inl tng3)), (tn_4, .inl (k 0, 10, .inl tng4)), (tn_5, .inl (k 0, 10, .inl tng5)), (tn_9, .inl (k 0, 4, .inl tng9)), (tn_10, .inl (k 0, 4, .inl tng10))] := hD
        generalize H1 = H at hP hS ⊢
        have hw_55 : (PR 8 1 0 0 1000000 o_53) := hw
        have hw_56 := hw_55
        clear hw
        obtain ⟨hP9, hD9⟩ := sub2 hP hD (ws' := [(ob, .inr (3, [.ref oba, .ref ob_1])), (oba, .inr (1, [.ref oba_0, .int o_51, .int o_52])), (oba_0, .inl (k 0, 8, .inl o_53)), (ob_1, .inl (k 2, 1000, .inr (.inl o_54))), (tn, .inr (10, [.int tnv0, .int tnv1, .int tnv2, .ref tn_3, .ref tn_4, .ref tn_5, .ref tn_6, .int tnv7, .int tnv8, .ref tn_9, .ref tn_10, .int tnv11, .ref tn_12, .ref tn_13, .ref tn_14, .ref tn_15, .int tnv16, .ref tn_17, .ref tn_18, .ref tnt])), (tn_3, .inl (k 0, 10, .inl tng3)), (tn_4, .inl (k 0, 10, .inl tng4)), (tn_5, .inl (k 0, 10, .inl tng5)), (tn_6, .inl (k 0, 10, .inl tng6)), (tn_9, .inl (k 0, 4, .inl tng9)), (tn_10, .inl (k 0, 4, .inl tng10))]) [1, 2, 3, 4, 5, 6, 7, 8, 0, 9, 10] (by decide +kernel) rfl
        exact W.vret hx hb hr (fun tZ ht hW => ⟨⟨(o_51, o_52, o_53, o_54), rfl, hw_56, by rw [ht]; exact hP9, va_K.moved hW.alike hK, hD9⟩, hS.F ht⟩) hS.2.2 dX3_weighLanes_168
  · skip
    have zh_11 : 1000 ≤ x_10.toInt := z_nlt h_11
    obtain ⟨hP9, hD9⟩ := sub2 hP hD (ws' := [(ob, .inr (3, [.ref oba, .ref ob_1])), (oba, .inr (1, [.ref oba_0, .int o_5, .int o_6])), (oba_0, .inl (k 0, 8, .inl o_7)), (ob_1, .inl (k 2, 1000, .inr (.inl obg1))), (tn, .inr (10, [.int tnv0, .int tnv1, .int tnv2, .ref tn_3, .ref tn_4, .ref tn_5, .ref tn_6, .int tnv7, .int tnv8, .ref tn_9, .ref tn_10, .int tnv11, .ref tn_12, .ref tn_13, .ref tn_14, .ref tn_15, .int tnv16, .ref tn_17, .ref tn_18, .ref tnt])), (tn_3, .inl (k 0, 10, .inl tng3)), (tn_4, .inl (k 0, 10, .inl tng4)), (tn_5, .inl (k 0, 10, .inl tng5)), (tn_6, .inl (k 0, 10, .inl tng6)), (tn_9, .inl (k 0, 4, .inl tng9)), (tn_10, .inl (k 0, 4, .inl tng10))]) [0, 3, 4, 1, 5, 6, 7, 8, 2, 9, 10] (by decide +kernel) rfl
    exact W.vret hx hb hr (fun tZ ht hW => ⟨⟨(o_5, o_6, o_7, obg1), rfl, hw_9, by rw [ht]; exact hP9, va_K.moved hW.alike hK, hD9⟩, hS.F ht⟩) hS.2.2 dX3_weighLanes_33
set_option maxHeartbeats 4000000 in
set_option maxRecDepth 100000 in
theorem c_X3_weighLanes_2 (l : Launch) (D : va_G) (k : Nat → ClassId) (ob : Nat) (tn : Nat) (p1 : Int32) (p2 : Int32) (p3 : Int32) (p4 : Int64) (oba : Nat) (ob_1 : Nat) (oba_0 : Nat) (obav1 : Int32) (obav2 : Int32) (obag0 : Nat → Int32) (obg1 : Nat → Int64) (tnv0 : Int32) (tnv1 : Int32) (tnv2 : Int32) (tn_3 : Nat) (tn_4 : Nat) (tn_5 : Nat) (tn_6 : Nat) (tnv7 : Int32) (tnv8 : Int32) (tn_9 : Nat) (tn_10 : Nat) (tnv11 : Int32) (tn_12 : Nat) (tn_13 : Nat) (tn_14 : Nat) (tn_15 : Nat) (tnv16 : Int32) (tn_17 : Nat) (tn_18 : Nat) (tnt : Nat) (tng3 : Nat → Int32) (tng4 : Nat → Int32) (tng5 : Nat → Int32) (tng6 : Nat → Int32) (tng9 : Nat → Int32) (tng10 : Nat → Int32) (sz : Nat) (h_p1 : 0 ≤ p1.toInt ∧ p1.toInt ≤ 7) (hp_obag0_0 : PR 8 1 0 0 1000000 obag0) (h_tnv0 : 0 ≤ tnv0.toInt ∧ tnv0.toInt ≤ 8) (h_tnv2 : 0 ≤ tnv2.toInt ∧ tnv2.toInt ≤ 10) (h_tnv8 : 0 ≤ tnv8.toInt ∧ tnv8.toInt ≤ 4) (h_tnv11 : 0 ≤ tnv11.toInt ∧ tnv11.toInt ≤ 6) (h_tnv16 : 0 ≤ tnv16.toInt ∧ tnv16.toInt ≤ 2) (hp_tng3_0 : PR 10 1 0 0 7 tng3) (hp_tng4_0 : PR 10 1 0 0 7 tng4) (hp_tng5_0 : PR 10 1 0 0 60 tng5) (hp_tng6_0 : PR 10 1 0 0 10 tng6) (hp_tng9_0 : PR 4 1 0 0 7 tng9) (hp_tng10_0 : PR 4 1 0 0 99 tng10) : Met l yX3_weighLanes (ww yX3_weighLanes cX3_weighLanes 14 none) ({ frames := 6, cells := 0, slots := 0, locals := 166 }) (Pre0 D k [(ob, .inr (3, [.ref oba, .ref ob_1])), (oba, .inr (1, [.ref oba_0, .int obav1, .int obav2])), (oba_0, .inl (k 0, 8, .inl obag0)), (ob_1, .inl (k 2, 1000, .inr (.inl obg1))), (tn, .inr (10, [.int tnv0, .int tnv1, .int tnv2, .ref tn_3, .ref tn_4, .ref tn_5, .ref tn_6, .int tnv7, .int tnv8, .ref tn_9, .ref tn_10, .int tnv11, .ref tn_12, .ref tn_13, .ref tn_14, .ref tn_15, .int tnv16, .ref tn_17, .ref tn_18, .ref tnt])), (tn_3, .inl (k 0, 10, .inl tng3)), (tn_4, .inl (k 0, 10, .inl tng4)), (tn_5, .inl (k 0, 10, .inl tng5)), (tn_6, .inl (k 0, 10, .inl tng6)), (tn_9, .inl (k 0, 4, .inl tng9)), (tn_10, .inl (k 0, 4, .inl tng10))] sz [.ref ob, .ref tn, .int p1, .int p2, .int p3, .long p4, .int 8]) (va_Qv (fun (u : Int32 × Int32 × (Nat → Int32) × (Nat → Int64)) => match u with | (obav1z, obav2z, obag0z, obg1z) => (PR 8 1 0 0 1000000 obag0z)) (fun (u : Int32 × Int32 × (Nat → Int32) × (Nat → Int64)) tZ => match u with | (obav1z, obav2z, obag0z, obg1z) => Bw D k (va_A [(ob, .inr (3, [.ref oba, .ref ob_1])), (oba, .inr (1, [.ref oba_0, .int obav1, .int obav2])), (oba_0, .inl (k 0, 8, .inl obag0)), (ob_1, .inl (k 2, 1000, .inr (.inl obg1))), (tn, .inr (10, [.int tnv0, .int tnv1, .int tnv2, .ref tn_3, .ref tn_4, .ref tn_5, .ref tn_6, .int tnv7, .int tnv8, .ref tn_9, .ref tn_10, .int tnv11, .ref tn_12, .ref tn_13, .ref tn_14, .ref tn_15, .int tnv16, .ref tn_17, .ref tn_18, .ref tnt])), (tn_3, .inl (k 0, 10, .inl tng3)), (tn_4, .inl (k 0, 10, .inl tng4)), (tn_5, .inl (k 0, 10, .inl tng5)), (tn_6, .inl (k 0, 10, .inl tng6)), (tn_9, .inl (k 0, 4, .inl tng9)), (tn_10, .inl (k 0, 4, .inl tng10))] sz) [(ob, .inr (3, [.ref oba, .ref ob_1])), (oba, .inr (1, [.ref oba_0, .int obav1z, .int obav2z])), (oba_0, .inl (k 0, 8, .inl obag0z)), (ob_1, .inl (k 2, 1000, .inr (.inl obg1z))), (tn, .inr (10, [.int tnv0, .int tnv1, .int tnv2, .ref tn_3, .ref tn_4, .ref tn_5, .ref tn_6, .int tnv7, .int tnv8, .ref tn_9, .ref tn_10, .int tnv11, .ref tn_12, .ref tn_13, .ref tn_14, .ref tn_15, .int tnv16, .ref tn_17, .ref tn_18, .ref tnt])), (tn_3, .inl (k 0, 10, .inl tng3)), (tn_4, .inl (k 0, 10, .inl tng4)), (tn_5, .inl (k 0, 10, .inl tng5)), (tn_6, .inl (k 0, 10, .inl tng6)), (tn_9, .inl (k 0, 4, .inl tng9)), (tn_10, .inl (k 0, 4, .inl tng10))] tZ) (va_A [(ob, .inr (3, [.ref oba, .ref ob_1])), (oba, .inr (1, [.ref oba_0, .int obav1, .int obav2])), (oba_0, .inl (k 0, 8, .inl obag0)), (ob_1, .inl (k 2, 1000, .inr (.inl obg1))), (tn, .inr (10, [.int tnv0, .int tnv1, .int tnv2, .ref tn_3, .ref tn_4, .ref tn_5, .ref tn_6, .int tnv7, .int tnv8, .ref tn_9, .ref tn_10, .int tnv11, .ref tn_12, .ref tn_13, .ref tn_14, .ref tn_15, .int tnv16, .ref tn_17, .ref tn_18, .ref tnt])), (tn_3, .inl (k 0, 10, .inl tng3)), (tn_4, .inl (k 0, 10, .inl tng4)), (tn_5, .inl (k 0, 10, .inl tng5)), (tn_6, .inl (k 0, 10, .inl tng6)), (tn_9, .inl (k 0, 4, .inl tng9)), (tn_10, .inl (k 0, 4, .inl tng10))] sz)) 0 0 (va_A [(ob, .inr (3, [.ref oba, .ref ob_1])), (oba, .inr (1, [.ref oba_0, .int obav1, .int obav2])), (oba_0, .inl (k 0, 8, .inl obag0)), (ob_1, .inl (k 2, 1000, .inr (.inl obg1))), (tn, .inr (10, [.int tnv0, .int tnv1, .int tnv2, .ref tn_3, .ref tn_4, .ref tn_5, .ref tn_6, .int tnv7, .int tnv8, .ref tn_9, .ref tn_10, .int tnv11, .ref tn_12, .ref tn_13, .ref tn_14, .ref tn_15, .int tnv16, .ref tn_17, .ref tn_18, .ref tnt])), (tn_3, .inl (k 0, 10, .inl tng3)), (tn_4, .inl (k 0, 10, .inl tng4)), (tn_5, .inl (k 0, 10, .inl tng5)), (tn_6, .inl (k 0, 10, .inl tng6)), (tn_9, .inl (k 0, 4, .inl tng9)), (tn_10, .inl (k 0, 4, .inl tng10))] sz) := by
  refine Met.ofW (cc := cX3_weighLanes) (maxL := 14) (ret := none) (by decide +kernel) rfl ?_
  intro p e s m args below meth c s₁ B hml hv
  obtain ⟨rfl, hsz, hP, hK, hD0, hN⟩ := hv
  have hx := B.exec
  have hb := B.bytes
  have hr := B.returns
  have hts : ∀ w ∈ TT, w.before _ s = true := fun w h => atoms_spec (ws := ww yX3_weighLanes cX3_weighLanes 14 none) B.pre w (List.mem_cons_of_mem _ h)
  have hown : s.vm.findClass RX3 = some m.cls := findClass_of_methodNamed B.named
  have hlocks := B.notSynchronized
  subst hsz
  have hD := hD0.self (sz := s.heap.size)
  generalize hAe : va_A [(ob, .inr (3, [.ref oba, .ref ob_1])), (oba, .inr (1, [.ref oba_0, .int obav1, .int obav2])), (oba_0, .inl (k 0, 8, .inl obag0)), (ob_1, .inl (k 2, 1000, .inr (.inl obg1))), (tn, .inr (10, [.int tnv0, .int tnv1, .int tnv2, .ref tn_3, .ref tn_4, .ref tn_5, .ref tn_6, .int tnv7, .int tnv8, .ref tn_9, .ref tn_10, .int tnv11, .ref tn_12, .ref tn_13, .ref tn_14, .ref tn_15, .int tnv16, .ref tn_17, .ref tn_18, .ref tnt])), (tn_3, .inl (k 0, 10, .inl tng3)), (tn_4, .inl (k 0, 10, .inl tng4)), (tn_5, .inl (k 0, 10, .inl tng5)), (tn_6, .inl (k 0, 10, .inl tng6)), (tn_9, .inl (k 0, 4, .inl tng9)), (tn_10, .inl (k 0, 4, .inl tng10))] s.heap.size = A at hD ⊢
  have hA : ∀ q : Nat, s.heap.size ≤ q → A q := fun q h => by rw [← hAe]; exact Or.inr h
  have hS : va_S A s.heap s.heap [] := va_S.rf
  have hl := lv_entry ([.ref ob, .ref tn, .int p1, .int p2, .int p3, .long p4, .int 8]) (n := 14) (Nat.le_of_ble_eq_true rfl)
  rw [lg_entry_eq]
  generalize (lg_sl ([.ref ob, .ref tn, .int p1, .int p2, .int p3, .long p4, .int 8]) ++ List.replicate (14 - (lg_sl ([.ref ob, .ref tn, .int p1, .int p2, .int p3, .long p4, .int 8])).length) Slot.unset).toArray = ls at hl ⊢
  have hl : lv_has ls 14 [(0, .ref ob), (1, .ref tn), (2, .int p1), (3, .int p2), (4, .int p3), (5, .long p4), (7, .int 8)] := hl
  refine lv_aload_n hx hb dX3_weighLanes_0 rfl (lv_at hl 0 rfl) ?_
  refine va_get (D := D) (ci := 3) (v := .ref oba) (C := RX3) (T := TX3) (N := 2) hx hb hts iT_X3 hown hK hP 0 rfl rfl 0 (by decide) (hts _ tw_2_163) (fun _ h9 => h9) rfl dX3_weighLanes_1 ?_
  refine lv_aload_n hx hb dX3_weighLanes_4 rfl (lv_at hl 1 rfl) ?_
  refine lv_aload_n hx hb dX3_weighLanes_5 rfl (lv_at hl 1 rfl) ?_
  obtain ⟨hPc, hDc, hFc⟩ := sub3 hP hD hS hA (ws' := [(tn, .inr (10, [.int tnv0, .int tnv1, .int tnv2, .ref tn_3, .ref tn_4, .ref tn_5, .ref tn_6, .int tnv7, .int tnv8, .ref tn_9, .ref tn_10, .int tnv11, .ref tn_12, .ref tn_13, .ref tn_14, .ref tn_15, .int tnv16, .ref tn_17, .ref tn_18, .ref tnt]))]) [4] (by decide +kernel) rfl
  refine va_calli (va_runV (C := RX10) (As := []) (rest := [.ref tn, .ref oba]) ⟨hx, hb, hml, hown, hts⟩ (c_X10_openLanes l D k tn tnv0 tnv1 tnv2 tn_3 tn_4 tn_5 tn_6 tnv7 tnv8 tn_9 tn_10 tnv11 tn_12 tn_13 tn_14 tn_15 tnv16 tn_17 tn_18 tnt s.heap.size (show 0 ≤ tnv0.toInt ∧ tnv0.toInt ≤ 8 from by omega) (show 0 ≤ tnv2.toInt ∧ tnv2.toInt ≤ 10 from by omega) (show 0 ≤ tnv8.toInt ∧ tnv8.toInt ≤ 4 from by omega) (show 0 ≤ tnv11.toInt ∧ tnv11.toInt ≤ 6 from by omega) (show 0 ≤ tnv16.toInt ∧ tnv16.toInt ≤ 2 from by omega)) (cwV 0 hts (gV tw_5_155 tw_3_180 tw_3_181 tw_1_3 tw_3_182) rfl rfl rfl hdV_X10_openLanes ⟨Nat.le_of_ble_eq_true rfl, Nat.le_of_ble_eq_true rfl⟩) (cz_V hK hPc hDc hN (ci := 10) (q0 := 0) rfl rfl []) rfl rfl hl.1 rfl (lv_room (Nat.le_of_ble_eq_true rfl)) dX3_weighLanes_6 ⟨Nat.le_of_ble_eq_true rfl, Nat.le_of_ble_eq_true rfl⟩) hS (fun q _ h => hFc q h) hFc (fun r_1 uZ tZ H1 locs ht hvm hw hB hz1 hk1 hS => ?_)
  obtain ⟨hP1, hK1, hD1⟩ := hB
  rw [ht] at hP1
  obtain ⟨hP, hD⟩ := va_join (wr := [(ob, .inr (3, [.ref oba, .ref ob_1])), (oba, .inr (1, [.ref oba_0, .int obav1, .int obav2])), (oba_0, .inl (k 0, 8, .inl obag0)), (ob_1, .inl (k 2, 1000, .inr (.inl obg1))), (tn_3, .inl (k 0, 10, .inl tng3)), (tn_4, .inl (k 0, 10, .inl tng4)), (tn_5, .inl (k 0, 10, .inl tng5)), (tn_6, .inl (k 0, 10, .inl tng6)), (tn_9, .inl (k 0, 4, .inl tng9)), (tn_10, .inl (k 0, 4, .inl tng10))]) (w1 := [(tn, .inr (10, [.int tnv0, .int tnv1, .int tnv2, .ref tn_3, .ref tn_4, .ref tn_5, .ref tn_6, .int tnv7, .int tnv8, .ref tn_9, .ref tn_10, .int tnv11, .ref tn_12, .ref tn_13, .ref tn_14, .ref tn_15, .int tnv16, .ref tn_17, .ref tn_18, .ref tnt]))]) hP hD [4] [0, 1, 2, 3, 5, 6, 7, 8, 9, 10] rfl rfl (by decide +kernel) (by decide +kernel) hk1 hFc hP1 hD1
  clear hK1 hP1 hD1 hPc hDc hFc
  clear hk1 hz1 ht hvm
  have hP : va_P D vwCl [(ob, .inr (3, [.ref oba, .ref ob_1])), (oba, .inr (1, [.ref oba_0, .int obav1, .int obav2])), (oba_0, .inl (k 0, 8, .inl obag0)), (ob_1, .inl (k 2, 1000, .inr (.inl obg1))), (tn_3, .inl (k 0, 10, .inl tng3)), (tn_4, .inl (k 0, 10, .inl tng4)), (tn_5, .inl (k 0, 10, .inl tng5)), (tn_6, .inl (k 0, 10, .inl tng6)), (tn_9, .inl (k 0, 4, .inl tng9)), (tn_10, .inl (k 0, 4, .inl tng10)), (tn, .inr (10, [.int tnv0, .int tnv1, .int tnv2, .ref tn_3, .ref tn_4, .ref tn_5, .ref tn_6, .int tnv7, .int tnv8, .ref tn_9, .ref tn_10, .int tnv11, .ref tn_12, .ref tn_13, .ref tn_14, .ref tn_15, .int tnv16, .ref tn_17, .ref tn_18, .ref tnt]))] H1 := hP
  have hD : va_D A [(ob, .inr (3, [.ref oba, .ref ob_1])), (oba, .inr (1, [.ref oba_0, .int obav1, .int obav2])), (oba_0, .inl (k 0, 8, .inl obag0)), (ob_1, .inl (k 2, 1000, .inr (.inl obg1))), (tn_3, .inl (k 0, 10, .inl tng3)), (tn_4, .inl (k 0, 10, .inl tng4)), (tn_5, .inl (k 0, 10, .inl tng5)), (tn_6, .inl (k 0, 10, .inl tng6)), (tn_9, .inl (k 0, 4, .inl tng9)), (tn_10, .inl (k 0, 4, .inl tng10)), (tn, .inr (10, [.int tnv0, .int tnv1, .int tnv2, .ref tn_3, .ref tn_4, .ref tn_5, .ref tn_6, .int tnv7, .int tnv8, .ref tn_9, .ref tn_10, .int tnv11, .ref tn_12, .ref tn_13, .ref tn_14, .ref tn_15, .int tnv16, .ref tn_17, .ref tn_18, .ref tnt]))] := hD
  generalize H1 = H at hP hS ⊢
  have hw_2 : (0 ≤ r_1.toInt ∧ r_1.toInt ≤ 1023) := hw
  have hw_3 := hw_2
  clear hw
  refine lv_iload hx hb dX3_weighLanes_9 (lv_at hl 4 rfl) ?_
  obtain ⟨hPc, hDc, hFc⟩ := sub3 hP hD hS hA (ws' := [(oba, .inr (1, [.ref oba_0, .int obav1, .int obav2])), (oba_0, .inl (k 0, 8, .inl obag0)), (tn, .inr (10, [.int tnv0, .int tnv1, .int tnv2, .ref tn_3, .ref tn_4, .ref tn_5, .ref tn_6, .int tnv7, .int tnv8, .ref tn_9, .ref tn_10, .int tnv11, .ref tn_12, .ref tn_13, .ref tn_14, .ref tn_15, .int tnv16, .ref tn_17, .ref tn_18, .ref tnt])), (tn_3, .inl (k 0, 10, .inl tng3)), (tn_4, .inl (k 0, 10, .inl tng4)), (tn_5, .inl (k 0, 10, .inl tng5)), (tn_9, .inl (k 0, 4, .inl tng9)), (tn_10, .inl (k 0, 4, .inl tng10))]) [1, 2, 10, 4, 5, 6, 8, 9] (by decide +kernel) rfl
  refine va_callv (va_runV (C := RX1) (As := [.ref tn, .int r_1, .int p3]) (rest := []) ⟨hx, hb, hml, hown, hts⟩ (c_X1_fall l D k oba tn r_1 p3 oba_0 obav1 obav2 obag0 tnv0 tnv1 tnv2 tn_3 tn_4 tn_5 tn_6 tnv7 tnv8 tn_9 tn_10 tnv11 tn_12 tn_13 tn_14 tn_15 tnv16 tn_17 tn_18 tnt tng3 tng4 tng5 tng9 tng10 H.size hp_obag0_0 (show 0 ≤ tnv0.toInt ∧ tnv0.toInt ≤ 8 from by omega) (show 0 ≤ tnv2.toInt ∧ tnv2.toInt ≤ 10 from by omega) (show 0 ≤ tnv8.toInt ∧ tnv8.toInt ≤ 4 from by omega) (show 0 ≤ tnv11.toInt ∧ tnv11.toInt ≤ 6 from by omega) (show 0 ≤ tnv16.toInt ∧ tnv16.toInt ≤ 2 from by omega) hp_tng3_0 hp_tng4_0 hp_tng5_0 hp_tng9_0 hp_tng10_0) (cwV 3 hts (gV tw_5_156 tw_3_184 tw_3_185 tw_1_6 tw_3_186) rfl rfl rfl hdV_X1_fall ⟨Nat.le_of_ble_eq_true rfl, Nat.le_of_ble_eq_true rfl⟩) (cz_V hK hPc hDc hN (ci := 1) (q0 := 0) rfl rfl [.ref tn, .int r_1, .int p3]) rfl rfl hl.1 rfl (lv_room (Nat.le_of_ble_eq_true rfl)) dX3_weighLanes_11 ⟨Nat.le_of_ble_eq_true rfl, Nat.le_of_ble_eq_true rfl⟩) hS (fun q _ h => hFc q h) hFc (fun uZ tZ H1 locs ht hvm hw hB hz1 hk1 hS => ?_)
  obtain ⟨o_5, o_6, o_7⟩ := uZ
  obtain ⟨hP1, hK1, hD1⟩ := hB
  rw [ht] at hP1
  obtain ⟨hP, hD⟩ := va_join (wr := [(ob, .inr (3, [.ref oba, .ref ob_1])), (ob_1, .inl (k 2, 1000, .inr (.inl obg1))), (tn_6, .inl (k 0, 10, .inl tng6))]) (w1 := [(oba, .inr (1, [.ref oba_0, .int o_5, .int o_6])), (oba_0, .inl (k 0, 8, .inl o_7)), (tn, .inr (10, [.int tnv0, .int tnv1, .int tnv2, .ref tn_3, .ref tn_4, .ref tn_5, .ref tn_6, .int tnv7, .int tnv8, .ref tn_9, .ref tn_10, .int tnv11, .ref tn_12, .ref tn_13, .ref tn_14, .ref tn_15, .int tnv16, .ref tn_17, .ref tn_18, .ref tnt])), (tn_3, .inl (k 0, 10, .inl tng3)), (tn_4, .inl (k 0, 10, .inl tng4)), (tn_5, .inl (k 0, 10, .inl tng5)), (tn_9, .inl (k 0, 4, .inl tng9)), (tn_10, .inl (k 0, 4, .inl tng10))]) hP hD [1, 2, 10, 4, 5, 6, 8, 9] [0, 3, 7] rfl rfl (by decide +kernel) (by decide +kernel) hk1 hFc hP1 hD1
  clear hK1 hP1 hD1 hPc hDc hFc
  clear hk1 hz1 ht hvm
  have hP : va_P D vwCl [(ob, .inr (3, [.ref oba, .ref ob_1])), (ob_1, .inl (k 2, 1000, .inr (.inl obg1))), (tn_6, .inl (k 0, 10, .inl tng6)), (oba, .inr (1, [.ref oba_0, .int o_5, .int o_6])), (oba_0, .inl (k 0, 8, .inl o_7)), (tn, .inr (10, [.int tnv0, .int tnv1, .int tnv2, .ref tn_3, .ref tn_4, .ref tn_5, .ref tn_6, .int tnv7, .int tnv8, .ref tn_9, .ref tn_10, .int tnv11, .ref tn_12, .ref tn_13, .ref tn_14, .ref tn_15, .int tnv16, .ref tn_17, .ref tn_18, .ref tnt])), (tn_3, .inl (k 0, 10, .inl tng3)), (tn_4, .inl (k 0, 10, .inl tng4)), (tn_5, .inl (k 0, 10, .inl tng5)), (tn_9, .inl (k 0, 4, .inl tng9)), (tn_10, .inl (k 0, 4, .inl tng10))] H1 := hP
  have hD : va_D A [(ob, .inr (3, [.ref oba, .ref ob_1])), (ob_1, .inl (k 2, 1000, .inr (.inl obg1))), (tn_6, .inl (k 0, 10, .inl tng6)), (oba, .inr (1, [.ref oba_0, .int o_5, .int o_6])), (oba_0, .inl (k 0, 8, .inl o_7)), (tn, .inr (10, [.int tnv0, .int tnv1, .int tnv2, .ref tn_3, .ref tn_4, .ref tn_5, .ref tn_6, .int tnv7, .int tnv8, .ref tn_9, .ref tn_10, .int tnv11, .ref tn_12, .ref tn_13, .ref tn_14, .ref tn_15, .int tnv16, .ref tn_17, .ref tn_18, .ref tnt])), (tn_3, .inl (k 0, 10, .inl tng3)), (tn_4, .inl (k 0, 10, .inl tng4)), (tn_5, .inl (k 0, 10, .inl tng5)), (tn_9, .inl (k 0, 4, .inl tng9)), (tn_10, .inl (k 0, 4, .inl tng10))] := hD
  generalize H1 = H at hP hS ⊢
  have hw_8 : (PR 8 1 0 0 1000000 o_7) := hw
  have hw_9 := hw_8
  clear hw
  refine lv_aload_n hx hb dX3_weighLanes_14 rfl (lv_at hl 0 rfl) ?_
  refine va_get (D := D) (ci := 3) (v := .ref oba) (C := RX3) (T := TX3) (N := 2) hx hb hts iT_X3 hown hK hP 0 rfl rfl 0 (by decide) (hts _ tw_2_163) (fun _ h9 => h9) rfl dX3_weighLanes_15 ?_
  refine va_get (D := D) (ci := 1) (v := .ref oba_0) (C := RX1) (T := TX1) (N := 3) hx hb hts iT_X1 hown hK hP 3 rfl rfl 0 (by decide) (hts _ tw_2_21) (fun _ h9 => h9) rfl dX3_weighLanes_18 ?_
  refine lv_iload_n hx hb dX3_weighLanes_21 rfl (lv_at hl 2 rfl) ?_
  refine va_iald hx hb hK hP 4 0 rfl rfl (z_in (by omega) (by omega)) dX3_weighLanes_22 ?_
  refine lv_topi (fun x_10 ex_10 => ?_)
  have zx_10r0 : 0 ≤ x_10.toInt ∧ x_10.toInt ≤ 1000000 := by rw [ex_10]; exact PR.ld hw_9 (by omega) (by omega) (by omega)
  refine lv_istore (lv' := [(8, .int x_10), (0, .ref ob), (1, .ref tn), (2, .int p1), (3, .int p2), (4, .int p3), (5, .long p4), (7, .int 8)]) hx hb dX3_weighLanes_23 hl (by decide) rfl (fun ls hl => ?_)
  refine lv_iload hx hb dX3_weighLanes_25 (lv_at hl 0 rfl) ?_
  refine lv_sipush (v := 1000) hx hb dX3_weighLanes_27 (by decide) ?_
  refine lv_icmp_lt (tgt := 34) hx hb dX3_weighLanes_30 (by decide) (fun h_11 => ?_) (fun h_11 => ?_)
  · skip
    have zh_11 : x_10.toInt < 1000 := z_lt h_11
    refine lv_aload_n hx hb dX3_weighLanes_34 rfl (lv_at hl 1 rfl) ?_
    refine va_get (D := D) (ci := 3) (v := .ref oba) (C := RX3) (T := TX3) (N := 2) hx hb hts iT_X3 hown hK hP 0 rfl rfl 0 (by decide) (hts _ tw_2_163) (fun _ h9 => h9) rfl dX3_weighLanes_35 ?_
    refine lv_aload_n hx hb dX3_weighLanes_38 rfl (lv_at hl 2 rfl) ?_
    refine lv_iload_n hx hb dX3_weighLanes_39 rfl (lv_at hl 3 rfl) ?_
    obtain ⟨hPc, hDc, hFc⟩ := sub3 hP hD hS hA (ws' := [(oba, .inr (1, [.ref oba_0, .int o_5, .int o_6])), (oba_0, .inl (k 0, 8, .inl o_7)), (tn, .inr (10, [.int tnv0, .int tnv1, .int tnv2, .ref tn_3, .ref tn_4, .ref tn_5, .ref tn_6, .int tnv7, .int tnv8, .ref tn_9, .ref tn_10, .int tnv11, .ref tn_12, .ref tn_13, .ref tn_14, .ref tn_15, .int tnv16, .ref tn_17, .ref tn_18, .ref tnt])), (tn_3, .inl (k 0, 10, .inl tng3)), (tn_4, .inl (k 0, 10, .inl tng4)), (tn_5, .inl (k 0, 10, .inl tng5)), (tn_9, .inl (k 0, 4, .inl tng9)), (tn_10, .inl (k 0, 4, .inl tng10))]) [3, 4, 5, 6, 7, 8, 9, 10] (by decide +kernel) rfl
    refine va_calli (va_runV (C := RX1) (As := [.ref tn, .int p1]) (rest := []) ⟨hx, hb, hml, hown, hts⟩ (c_X1_wayTo l D k oba tn p1 oba_0 o_5 o_6 o_7 tnv0 tnv1 tnv2 tn_3 tn_4 tn_5 tn_6 tnv7 tnv8 tn_9 tn_10 tnv11 tn_12 tn_13 tn_14 tn_15 tnv16 tn_17 tn_18 tnt tng3 tng4 tng5 tng9 tng10 H.size (show 0 ≤ p1.toInt ∧ p1.toInt ≤ 7 from by omega) hw_9 (show 0 ≤ tnv0.toInt ∧ tnv0.toInt ≤ 8 from by omega) (show 0 ≤ tnv2.toInt ∧ tnv2.toInt ≤ 10 from by omega) (show 0 ≤ tnv8.toInt ∧ tnv8.toInt ≤ 4 from by omega) (show 0 ≤ tnv11.toInt ∧ tnv11.toInt ≤ 6 from by omega) (show 0 ≤ tnv16.toInt ∧ tnv16.toInt ≤ 2 from by omega) hp_tng3_0 hp_tng4_0 hp_tng5_0 hp_tng9_0 hp_tng10_0) (cwV 2 hts (gV tw_5_157 tw_4_96 tw_4_97 tw_1_6 tw_4_98) rfl rfl rfl hdV_X1_wayTo ⟨Nat.le_of_ble_eq_true rfl, Nat.le_of_ble_eq_true rfl⟩) (cz_V hK hPc hDc hN (ci := 1) (q0 := 0) rfl rfl [.ref tn, .int p1]) rfl rfl hl.1 rfl (lv_room (Nat.le_of_ble_eq_true rfl)) dX3_weighLanes_40 ⟨Nat.le_of_ble_eq_true rfl, Nat.le_of_ble_eq_true rfl⟩) hS (fun q _ h => hFc q h) hFc (fun r_12 uZ tZ H1 locs ht hvm hw hB hz1 hk1 hS => ?_)
    obtain ⟨hP1, hK1, hD1⟩ := hB
    rw [ht] at hP1
    obtain ⟨hP, hD⟩ := va_join (wr := [(ob, .inr (3, [.ref oba, .ref ob_1])), (ob_1, .inl (k 2, 1000, .inr (.inl obg1))), (tn_6, .inl (k 0, 10, .inl tng6))]) (w1 := [(oba, .inr (1, [.ref oba_0, .int o_5, .int o_6])), (oba_0, .inl (k 0, 8, .inl o_7)), (tn, .inr (10, [.int tnv0, .int tnv1, .int tnv2, .ref tn_3, .ref tn_4, .ref tn_5, .ref tn_6, .int tnv7, .int tnv8, .ref tn_9, .ref tn_10, .int tnv11, .ref tn_12, .ref tn_13, .ref tn_14, .ref tn_15, .int tnv16, .ref tn_17, .ref tn_18, .ref tnt])), (tn_3, .inl (k 0, 10, .inl tng3)), (tn_4, .inl (k 0, 10, .inl tng4)), (tn_5, .inl (k 0, 10, .inl tng5)), (tn_9, .inl (k 0, 4, .inl tng9)), (tn_10, .inl (k 0, 4, .inl tng10))]) hP hD [3, 4, 5, 6, 7, 8, 9, 10] [0, 1, 2] rfl rfl (by decide +kernel) (by decide +kernel) hk1 hFc hP1 hD1
    clear hK1 hP1 hD1 hPc hDc hFc
    clear hk1 hz1 ht hvm
    have hP : va_P D vwCl [(ob, .inr (3, [.ref oba, .ref ob_1])), (ob_1, .inl (k 2, 1000, .inr (.inl obg1))), (tn_6, .inl (k 0, 10, .inl tng6)), (oba, .inr (1, [.ref oba_0, .int o_5, .int o_6])), (oba_0, .inl (k 0, 8, .inl o_7)), (tn, .inr (10, [.int tnv0, .int tnv1, .int tnv2, .ref tn_3, .ref tn_4, .ref tn_5, .ref tn_6, .int tnv7, .int tnv8, .ref tn_9, .ref tn_10, .int tnv11, .ref tn_12, .ref tn_13, .ref tn_14, .ref tn_15, .int tnv16, .ref tn_17, .ref tn_18, .ref tnt])), (tn_3, .inl (k 0, 10, .inl tng3)), (tn_4, .inl (k 0, 10, .inl tng4)), (tn_5, .inl (k 0, 10, .inl tng5)), (tn_9, .inl (k 0, 4, .inl tng9)), (tn_10, .inl (k 0, 4, .inl tng10))] H1 := hP
    have hD : va_D A [(ob, .inr (3, [.ref oba, .ref ob_1])), (ob_1, .inl (k 2, 1000, .inr (.inl obg1))), (tn_6, .inl (k 0, 10, .inl tng6)), (oba, .inr (1, [.ref oba_0, .int o_5, .int o_6])), (oba_0, .inl (k 0, 8, .inl o_7)), (tn, .inr (10, [.int tnv0, .int tnv1, .int tnv2, .ref tn_3, .ref tn_4, .ref tn_5, .ref tn_6, .int tnv7, .int tnv8, .ref tn_9, .ref tn_10, .int tnv11, .ref tn_12, .ref tn_13, .ref tn_14, .ref tn_15, .int tnv16, .ref tn_17, .ref tn_18, .ref tnt])), (tn_3, .inl (k 0, 10, .inl tng3)), (tn_4, .inl (k 0, 10, .inl tng4)), (tn_5, .inl (k 0, 10, .inl tng5)), (tn_9, .inl (k 0, 4, .inl tng9)), (tn_10, .inl (k 0, 4, .inl tng10))] := hD
    generalize H1 = H at hP hS ⊢
    have hw_13 : (0 ≤ r_12.toInt ∧ r_12.toInt ≤ 1023) := hw
    have hw_14 := hw_13
    clear hw
    refine lv_iload_n hx hb dX3_weighLanes_43 rfl (lv_at hl 4 rfl) ?_
    refine lv_iconst (v := (-1)) hx hb dX3_weighLanes_44 (by decide) ?_
    refine lv_ixor hx hb dX3_weighLanes_45 ?_
    refine lv_topi (fun x_15 ex_15 => ?_)
    have zrp2 := z_rng p2
    refine lv_iand hx hb dX3_weighLanes_46 ?_
    refine lv_topi (fun x_16 ex_16 => ?_)
    have zrx_15 := z_rng x_15
    have zx_16 : 0 ≤ x_16.toInt ∧ x_16.toInt ≤ r_12.toInt := by rw [ex_16]; exact z_andL (by omega)
    refine lv_istore (lv' := [(9, .int x_16), (8, .int x_10), (0, .ref ob), (1, .ref tn), (2, .int p1), (3, .int p2), (4, .int p3), (5, .long p4), (7, .int 8)]) hx hb dX3_weighLanes_47 hl (by decide) rfl (fun ls hl => ?_)
    refine lv_iload hx hb dX3_weighLanes_49 (lv_at hl 0 rfl) ?_
    refine lv_iload hx hb dX3_weighLanes_51 (lv_at hl 0 rfl) ?_
    refine lv_ineg hx hb dX3_weighLanes_53 ?_
    refine lv_topi (fun x_17 ex_17 => ?_)
    refine lv_iand hx hb dX3_weighLanes_54 ?_
    refine lv_topi (fun x_18 ex_18 => ?_)
    have zrx_17 := z_rng x_17
    have zx_18 : 0 ≤ x_18.toInt ∧ x_18.toInt ≤ x_16.toInt := by rw [ex_18]; exact z_andL (by omega)
    refine lv_iconst (v := 1) hx hb dX3_weighLanes_55 (by decide) ?_
    refine lv_isub hx hb dX3_weighLanes_56 ?_
    refine lv_topi (fun x_19 ex_19 => ?_)
    have zx_19 : x_19.toInt = x_18.toInt - 1 := by rw [ex_19]; exact z_sub rfl rfl (by omega) (by omega)
    obtain ⟨hPc, hDc, hFc⟩ := sub3 hP hD hS hA (ws' := []) [] (by decide +kernel) rfl
    refine va_calli (va_runS (As := [.int x_19]) (rest := []) ⟨hx, hb, hml, hown, hts⟩ (c_J6_bitCount_0f7a4 l D k x_19 H.size) (va_cwS 1 hts (gS tw_5_158 tw_4_101 tw_1_20 tw_4_102) rfl rfl rfl hdS_J6_bitCount_0f7a4 ⟨Nat.le_of_ble_eq_true rfl, Nat.le_of_ble_eq_true rfl⟩) (cz_S hK hPc hDc hN [.int x_19]) rfl rfl hl.1 rfl (lv_room (Nat.le_of_ble_eq_true rfl)) dX3_weighLanes_57 ⟨Nat.le_of_ble_eq_true rfl, Nat.le_of_ble_eq_true rfl⟩) hS (fun q _ h => hFc q h) hFc (fun r_20 uZ tZ H1 locs ht hvm hw hB hz1 hk1 hS => ?_)
    obtain ⟨hP1, hK1, hD1⟩ := hB
    rw [ht] at hP1
    obtain ⟨hP, hD⟩ := va_join (wr := [(ob, .inr (3, [.ref oba, .ref ob_1])), (ob_1, .inl (k 2, 1000, .inr (.inl obg1))), (tn_6, .inl (k 0, 10, .inl tng6)), (oba, .inr (1, [.ref oba_0, .int o_5, .int o_6])), (oba_0, .inl (k 0, 8, .inl o_7)), (tn, .inr (10, [.int tnv0, .int tnv1, .int tnv2, .ref tn_3, .ref tn_4, .ref tn_5, .ref tn_6, .int tnv7, .int tnv8, .ref tn_9, .ref tn_10, .int tnv11, .ref tn_12, .ref tn_13, .ref tn_14, .ref tn_15, .int tnv16, .ref tn_17, .ref tn_18, .ref tnt])), (tn_3, .inl (k 0, 10, .inl tng3)), (tn_4, .inl (k 0, 10, .inl tng4)), (tn_5, .inl (k 0, 10, .inl tng5)), (tn_9, .inl (k 0, 4, .inl tng9)), (tn_10, .inl (k 0, 4, .inl tng10))]) (w1 := []) hP hD [] [0, 1, 2, 3, 4, 5, 6, 7, 8, 9, 10] rfl rfl (by decide +kernel) (by decide +kernel) hk1 hFc hP1 hD1
    clear hK1 hP1 hD1 hPc hDc hFc
    clear hk1 hz1 ht hvm
    have hP : va_P D vwCl [(ob, .inr (3, [.ref oba, .ref ob_1])), (ob_1, .inl (k 2, 1000, .inr (.inl obg1))), (tn_6, .inl (k 0, 10, .inl tng6)), (oba, .inr (1, [.ref oba_0, .int o_5, .int o_6])), (oba_0, .inl (k 0, 8, .inl o_7)), (tn, .inr (10, [.int tnv0, .int tnv1, .int tnv2, .ref tn_3, .ref tn_4, .ref tn_5, .ref tn_6, .int tnv7, .int tnv8, .ref tn_9, .ref tn_10, .int tnv11, .ref tn_12, .ref tn_13, .ref tn_14, .ref tn_15, .int tnv16, .ref tn_17, .ref tn_18, .ref tnt])), (tn_3, .inl (k 0, 10, .inl tng3)), (tn_4, .inl (k 0, 10, .inl tng4)), (tn_5, .inl (k 0, 10, .inl tng5)), (tn_9, .inl (k 0, 4, .inl tng9)), (tn_10, .inl (k 0, 4, .inl tng10))] H1 := hP
    have hD : va_D A [(ob, .inr (3, [.ref oba, .ref ob_1])), (ob_1, .inl (k 2, 1000, .inr (.inl obg1))), (tn_6, .inl (k 0, 10, .inl tng6)), (oba, .inr (1, [.ref oba_0, .int o_5, .int o_6])), (oba_0, .inl (k 0, 8, .inl o_7)), (tn, .inr (10, [.int tnv0, .int tnv1, .int tnv2, .ref tn_3, .ref tn_4, .ref tn_5, .ref tn_6, .int tnv7, .int tnv8, .ref tn_9, .ref tn_10, .int tnv11, .ref tn_12, .ref tn_13, .ref tn_14, .ref tn_15, .int tnv16, .ref tn_17, .ref tn_18, .ref tnt])), (tn_3, .inl (k 0, 10, .inl tng3)), (tn_4, .inl (k 0, 10, .inl tng4)), (tn_5, .inl (k 0, 10, .inl tng5)), (tn_9, .inl (k 0, 4, .inl tng9)), (tn_10, .inl (k 0, 4, .inl tng10))] := hD
    generalize H1 = H at hP hS ⊢
    have hw_21 : (0 ≤ r_20.toInt ∧ r_20.toInt ≤ 63) := hw
    have hw_22 := hw_21
    clear hw
    refine lv_istore (lv' := [(10, .int r_20), (9, .int x_16), (8, .int x_10), (0, .ref ob), (1, .ref tn), (2, .int p1), (3, .int p2), (4, .int p3), (5, .long p4), (7, .int 8)]) hx hb dX3_weighLanes_60 hl (by decide) rfl (fun ls hl => ?_)
    refine lv_iload hx hb dX3_weighLanes_62 (lv_at hl 1 rfl) ?_
    refine lv_if_eq (tgt := 81) hx hb dX3_weighLanes_64 (by decide) (fun h_23 => ?_) (fun h_23 => ?_)
    · skip
      have zh_23 : x_16.toInt = 0 := z_eq h_23
      refine lv_aload_n hx hb dX3_weighLanes_81 rfl (lv_at hl 3 rfl) ?_
      refine va_get (D := D) (ci := 3) (v := .ref ob_1) (C := RX3) (T := TX3) (N := 2) hx hb hts iT_X3 hown hK hP 0 rfl rfl 1 (by decide) (hts _ tw_2_164) (fun _ h9 => h9) rfl dX3_weighLanes_82 ?_
      refine lv_iload hx hb dX3_weighLanes_85 (lv_at hl 2 rfl) ?_
      refine lv_dup2_11 hx hb dX3_weighLanes_87 rfl rfl ?_
      refine va_lald hx hb hK hP 1 2 rfl rfl (z_in (by omega) (by omega)) dX3_weighLanes_88 ?_
      refine lv_topl (fun x_24 ex_24 => ?_)
      refine lv_lload hx hb dX3_weighLanes_89 (lv_at hl 8 rfl) ?_
      refine lv_ladd hx hb dX3_weighLanes_91 ?_
      refine lv_topl (fun x_25 ex_25 => ?_)
      refine va_last hx hb hK hP hD hS 1 2 rfl rfl (z_in (by omega) (by omega)) dX3_weighLanes_92 (fun H locs hP hD hS => ?_)
      obtain ⟨g_26, eg_26⟩ : ∃ z : Nat → Int64, vp_updL obg1 x_10.toNatClampNeg x_25 = z := ⟨_, rfl⟩
      have hP : va_P D vwCl [(ob, .inr (3, [.ref oba, .ref ob_1])), (ob_1, .inl (k 2, 1000, .inr (.inl (vp_updL obg1 x_10.toNatClampNeg x_25)))), (tn_6, .inl (k 0, 10, .inl tng6)), (oba, .inr (1, [.ref oba_0, .int o_5, .int o_6])), (oba_0, .inl (k 0, 8, .inl o_7)), (tn, .inr (10, [.int tnv0, .int tnv1, .int tnv2, .ref tn_3, .ref tn_4, .ref tn_5, .ref tn_6, .int tnv7, .int tnv8, .ref tn_9, .ref tn_10, .int tnv11, .ref tn_12, .ref tn_13, .ref tn_14, .ref tn_15, .int tnv16, .ref tn_17, .ref tn_18, .ref tnt])), (tn_3, .inl (k 0, 10, .inl tng3)), (tn_4, .inl (k 0, 10, .inl tng4)), (tn_5, .inl (k 0, 10, .inl tng5)), (tn_9, .inl (k 0, 4, .inl tng9)), (tn_10, .inl (k 0, 4, .inl tng10))] H := hP
      have hD : va_D A [(ob, .inr (3, [.ref oba, .ref ob_1])), (ob_1, .inl (k 2, 1000, .inr (.inl (vp_updL obg1 x_10.toNatClampNeg x_25)))), (tn_6, .inl (k 0, 10, .inl tng6)), (oba, .inr (1, [.ref oba_0, .int o_5, .int o_6])), (oba_0, .inl (k 0, 8, .inl o_7)), (tn, .inr (10, [.int tnv0, .int tnv1, .int tnv2, .ref tn_3, .ref tn_4, .ref tn_5, .ref tn_6, .int tnv7, .int tnv8, .ref tn_9, .ref tn_10, .int tnv11, .ref tn_12, .ref tn_13, .ref tn_14, .ref tn_15, .int tnv16, .ref tn_17, .ref tn_18, .ref tnt])), (tn_3, .inl (k 0, 10, .inl tng3)), (tn_4, .inl (k 0, 10, .inl tng4)), (tn_5, .inl (k 0, 10, .inl tng5)), (tn_9, .inl (k 0, 4, .inl tng9)), (tn_10, .inl (k 0, 4, .inl tng10))] := hD
      rw [eg_26] at hP hD
      obtain ⟨hP9, hD9⟩ := sub2 hP hD (ws' := [(ob, .inr (3, [.ref oba, .ref ob_1])), (oba, .inr (1, [.ref oba_0, .int o_5, .int o_6])), (oba_0, .inl (k 0, 8, .inl o_7)), (ob_1, .inl (k 2, 1000, .inr (.inl g_26))), (tn, .inr (10, [.int tnv0, .int tnv1, .int tnv2, .ref tn_3, .ref tn_4, .ref tn_5, .ref tn_6, .int tnv7, .int tnv8, .ref tn_9, .ref tn_10, .int tnv11, .ref tn_12, .ref tn_13, .ref tn_14, .ref tn_15, .int tnv16, .ref tn_17, .ref tn_18, .ref tnt])), (tn_3, .inl (k 0, 10, .inl tng3)), (tn_4, .inl (k 0, 10, .inl tng4)), (tn_5, .inl (k 0, 10, .inl tng5)), (tn_6, .inl (k 0, 10, .inl tng6)), (tn_9, .inl (k 0, 4, .inl tng9)), (tn_10, .inl (k 0, 4, .inl tng10))]) [0, 3, 4, 1, 5, 6, 7, 8, 2, 9, 10] (by decide +kernel) rfl
      exact W.vret hx hb hr (fun tZ ht hW => ⟨⟨(o_5, o_6, o_7, g_26), rfl, hw_9, by rw [ht]; exact hP9, va_K.moved hW.alike hK, hD9⟩, hS.F ht⟩) hS.2.2 dX3_weighLanes_93
    · skip
      have zh_23 : ¬ x_16.toInt = 0 := z_ne h_23
      refine lv_iload hx hb dX3_weighLanes_67 (lv_at hl 0 rfl) ?_
      refine lv_bipush (v := 10) hx hb dX3_weighLanes_69 (by decide) ?_
      refine lv_icmp_ge (tgt := 81) hx hb dX3_weighLanes_71 (by decide) (fun h_27 => ?_) (fun h_27 => ?_)
      · skip
        have zh_27 : 10 ≤ r_20.toInt := z_le h_27
        refine lv_aload_n hx hb dX3_weighLanes_81 rfl (lv_at hl 3 rfl) ?_
        refine va_get (D := D) (ci := 3) (v := .ref ob_1) (C := RX3) (T := TX3) (N := 2) hx hb hts iT_X3 hown hK hP 0 rfl rfl 1 (by decide) (hts _ tw_2_164) (fun _ h9 => h9) rfl dX3_weighLanes_82 ?_
        refine lv_iload hx hb dX3_weighLanes_85 (lv_at hl 2 rfl) ?_
        refine lv_dup2_11 hx hb dX3_weighLanes_87 rfl rfl ?_
        refine va_lald hx hb hK hP 1 2 rfl rfl (z_in (by omega) (by omega)) dX3_weighLanes_88 ?_
        refine lv_topl (fun x_28 ex_28 => ?_)
        refine lv_lload hx hb dX3_weighLanes_89 (lv_at hl 8 rfl) ?_
        refine lv_ladd hx hb dX3_weighLanes_91 ?_
        refine lv_topl (fun x_29 ex_29 => ?_)
        refine va_last hx hb hK hP hD hS 1 2 rfl rfl (z_in (by omega) (by omega)) dX3_weighLanes_92 (fun H locs hP hD hS => ?_)
        obtain ⟨g_30, eg_30⟩ : ∃ z : Nat → Int64, vp_updL obg1 x_10.toNatClampNeg x_29 = z := ⟨_, rfl⟩
        have hP : va_P D vwCl [(ob, .inr (3, [.ref oba, .ref ob_1])), (ob_1, .inl (k 2, 1000, .inr (.inl (vp_updL obg1 x_10.toNatClampNeg x_29)))), (tn_6, .inl (k 0, 10, .inl tng6)), (oba, .inr (1, [.ref oba_0, .int o_5, .int o_6])), (oba_0, .inl (k 0, 8, .inl o_7)), (tn, .inr (10, [.int tnv0, .int tnv1, .int tnv2, .ref tn_3, .ref tn_4, .ref tn_5, .ref tn_6, .int tnv7, .int tnv8, .ref tn_9, .ref tn_10, .int tnv11, .ref tn_12, .ref tn_13, .ref tn_14, .ref tn_15, .int tnv16, .ref tn_17, .ref tn_18, .ref tnt])), (tn_3, .inl (k 0, 10, .inl tng3)), (tn_4, .inl (k 0, 10, .inl tng4)), (tn_5, .inl (k 0, 10, .inl tng5)), (tn_9, .inl (k 0, 4, .inl tng9)), (tn_10, .inl (k 0, 4, .inl tng10))] H := hP
        have hD : va_D A [(ob, .inr (3, [.ref oba, .ref ob_1])), (ob_1, .inl (k 2, 1000, .inr (.inl (vp_updL obg1 x_10.toNatClampNeg x_29)))), (tn_6, .inl (k 0, 10, .inl tng6)), (oba, .inr (1, [.ref oba_0, .int o_5, .int o_6])), (oba_0, .inl (k 0, 8, .inl o_7)), (tn, .inr (10, [.int tnv0, .int tnv1, .int tnv2, .ref tn_3, .ref tn_4, .ref tn_5, .ref tn_6, .int tnv7, .int tnv8, .ref tn_9, .ref tn_10, .int tnv11, .ref tn_12, .ref tn_13, .ref tn_14, .ref tn_15, .int tnv16, .ref tn_17, .ref tn_18, .ref tnt])), (tn_3, .inl (k 0, 10, .inl tng3)), (tn_4, .inl (k 0, 10, .inl tng4)), (tn_5, .inl (k 0, 10, .inl tng5)), (tn_9, .inl (k 0, 4, .inl tng9)), (tn_10, .inl (k 0, 4, .inl tng10))] := hD
        rw [eg_30] at hP hD
        obtain ⟨hP9, hD9⟩ := sub2 hP hD (ws' := [(ob, .inr (3, [.ref oba, .ref ob_1])), (oba, .inr (1, [.ref oba_0, .int o_5, .int o_6])), (oba_0, .inl (k 0, 8, .inl o_7)), (ob_1, .inl (k 2, 1000, .inr (.inl g_30))), (tn, .inr (10, [.int tnv0, .int tnv1, .int tnv2, .ref tn_3, .ref tn_4, .ref tn_5, .ref tn_6, .int tnv7, .int tnv8, .ref tn_9, .ref tn_10, .int tnv11, .ref tn_12, .ref tn_13, .ref tn_14, .ref tn_15, .int tnv16, .ref tn_17, .ref tn_18, .ref tnt])), (tn_3, .inl (k 0, 10, .inl tng3)), (tn_4, .inl (k 0, 10, .inl tng4)), (tn_5, .inl (k 0, 10, .inl tng5)), (tn_6, .inl (k 0, 10, .inl tng6)), (tn_9, .inl (k 0, 4, .inl tng9)), (tn_10, .inl (k 0, 4, .inl tng10))]) [0, 3, 4, 1, 5, 6, 7, 8, 2, 9, 10] (by decide +kernel) rfl
        exact W.vret hx hb hr (fun tZ ht hW => ⟨⟨(o_5, o_6, o_7, g_30), rfl, hw_9, by rw [ht]; exact hP9, va_K.moved hW.alike hK, hD9⟩, hS.F ht⟩) hS.2.2 dX3_weighLanes_93
      · skip
        have zh_27 : r_20.toInt < 10 := z_nle h_27
        refine lv_iload hx hb dX3_weighLanes_74 (lv_at hl 9 rfl) ?_
        refine lv_bipush (v := 10) hx hb dX3_weighLanes_76 (by decide) ?_
        refine lv_icmp_lt (tgt := 94) hx hb dX3_weighLanes_78 (by decide) (fun _ => ?_) (fun c9 => absurd c9 (by decide))
        refine lv_iconst (v := 1) hx hb dX3_weighLanes_94 (by decide) ?_
        refine lv_iload hx hb dX3_weighLanes_95 (lv_at hl 0 rfl) ?_
        refine lv_ishl hx hb dX3_weighLanes_97 ?_
        refine lv_topi (fun x_31 ex_31 => ?_)
        have zx_31 : 1 ≤ x_31.toInt ∧ x_31.toInt ≤ 512 := by rw [ex_31]; exact z_shl1 9 512 rfl (by decide) (by omega) (by omega)
        refine lv_istore (lv' := [(11, .int x_31), (10, .int r_20), (9, .int x_16), (8, .int x_10), (0, .ref ob), (1, .ref tn), (2, .int p1), (3, .int p2), (4, .int p3), (5, .long p4), (7, .int 8)]) hx hb dX3_weighLanes_98 hl (by decide) rfl (fun ls hl => ?_)
        refine lv_lload hx hb dX3_weighLanes_100 (lv_at hl 9 rfl) ?_
        refine lv_ldc2 (v := 10) hx hb hown (hts _ tw_5_159) dX3_weighLanes_102 ?_
        refine lv_ldiv hx hb dX3_weighLanes_105 (by decide) ?_
        refine lv_topl (fun x_32 ex_32 => ?_)
        refine lv_lstore (lv' := [(12, .long x_32), (11, .int x_31), (10, .int r_20), (9, .int x_16), (8, .int x_10), (0, .ref ob), (1, .ref tn), (2, .int p1), (3, .int p2), (4, .int p3), (5, .long p4), (7, .int 8)]) hx hb dX3_weighLanes_106 hl (by decide) rfl (fun ls hl => ?_)
        refine lv_aload_n hx hb dX3_weighLanes_108 rfl (lv_at hl 5 rfl) ?_
        refine lv_aload_n hx hb dX3_weighLanes_109 rfl (lv_at hl 6 rfl) ?_
        refine lv_iload_n hx hb dX3_weighLanes_110 rfl (lv_at hl 7 rfl) ?_
        refine lv_iload_n hx hb dX3_weighLanes_111 rfl (lv_at hl 8 rfl) ?_
        refine lv_iload hx hb dX3_weighLanes_112 (lv_at hl 1 rfl) ?_
        refine lv_ior hx hb dX3_weighLanes_114 ?_
        refine lv_topi (fun x_33 ex_33 => ?_)
        refine lv_iload hx hb dX3_weighLanes_115 (lv_at hl 9 rfl) ?_
        refine lv_lload hx hb dX3_weighLanes_117 (lv_at hl 0 rfl) ?_
        refine lv_bipush (v := 10) hx hb dX3_weighLanes_119 (by decide) ?_
        refine lv_aload_n hx hb dX3_weighLanes_121 rfl (lv_at hl 6 rfl) ?_
        refine va_get (D := D) (ci := 10) (v := .ref tn_6) (C := RX10) (T := TX10) (N := 20) hx hb hts iT_X10 hown hK hP 5 rfl rfl 6 (by decide) (hts _ tw_1_98) (fun _ h9 => h9) rfl dX3_weighLanes_122 ?_
        refine lv_iload hx hb dX3_weighLanes_125 (lv_at hl 2 rfl) ?_
        refine va_iald hx hb hK hP 2 0 rfl rfl (z_in (by omega) (by omega)) dX3_weighLanes_127 ?_
        refine lv_topi (fun x_34 ex_34 => ?_)
        have zx_34r0 : 0 ≤ x_34.toInt ∧ x_34.toInt ≤ 10 := by rw [ex_34]; exact PR.ld hp_tng6_0 (by omega) (by omega) (by omega)
        refine lv_isub hx hb dX3_weighLanes_128 ?_
        refine lv_topi (fun x_35 ex_35 => ?_)
        have zx_35 : x_35.toInt = 10 - x_34.toInt := by rw [ex_35]; exact z_sub rfl rfl (by omega) (by omega)
        refine lv_i2l (v := x_35.toInt64) hx hb dX3_weighLanes_129 rfl ?_
        refine lv_lmul hx hb dX3_weighLanes_130 ?_
        refine lv_topl (fun x_36 ex_36 => ?_)
        refine lv_iload hx hb dX3_weighLanes_131 (lv_at hl 11 rfl) ?_
        refine lv_iconst (v := 1) hx hb dX3_weighLanes_133 (by decide) ?_
        refine lv_iadd hx hb dX3_weighLanes_134 ?_
        refine lv_topi (fun x_37 ex_37 => ?_)
        obtain rfl : x_37 = 9 := ex_37.trans (by decide)
        obtain ⟨hPc, hDc, hFc⟩ := sub3 hP hD hS hA (ws' := [(ob, .inr (3, [.ref oba, .ref ob_1])), (oba, .inr (1, [.ref oba_0, .int o_5, .int o_6])), (oba_0, .inl (k 0, 8, .inl o_7)), (ob_1, .inl (k 2, 1000, .inr (.inl obg1))), (tn, .inr (10, [.int tnv0, .int tnv1, .int tnv2, .ref tn_3, .ref tn_4, .ref tn_5, .ref tn_6, .int tnv7, .int tnv8, .ref tn_9, .ref tn_10, .int tnv11, .ref tn_12, .ref tn_13, .ref tn_14, .ref tn_15, .int tnv16, .ref tn_17, .ref tn_18, .ref tnt])), (tn_3, .inl (k 0, 10, .inl tng3)), (tn_4, .inl (k 0, 10, .inl tng4)), (tn_5, .inl (k 0, 10, .inl tng5)), (tn_6, .inl (k 0, 10, .inl tng6)), (tn_9, .inl (k 0, 4, .inl tng9)), (tn_10, .inl (k 0, 4, .inl tng10))]) [0, 3, 4, 1, 5, 6, 7, 8, 2, 9, 10] (by decide +kernel) rfl
        refine va_callv (va_runV (C := RX3) (As := [.ref tn, .int p1, .int x_33, .int p3, .long x_36, .int 9]) (rest := []) ⟨hx, hb, hml, hown, hts⟩ (c_X3_weighLanes_1 l D k ob tn p1 x_33 p3 x_36 oba ob_1 oba_0 o_5 o_6 o_7 obg1 tnv0 tnv1 tnv2 tn_3 tn_4 tn_5 tn_6 tnv7 tnv8 tn_9 tn_10 tnv11 tn_12 tn_13 tn_14 tn_15 tnv16 tn_17 tn_18 tnt tng3 tng4 tng5 tng6 tng9 tng10 H.size (show 0 ≤ p1.toInt ∧ p1.toInt ≤ 7 from by omega) hw_9 (show 0 ≤ tnv0.toInt ∧ tnv0.toInt ≤ 8 from by omega) (show 0 ≤ tnv2.toInt ∧ tnv2.toInt ≤ 10 from by omega) (show 0 ≤ tnv8.toInt ∧ tnv8.toInt ≤ 4 from by omega) (show 0 ≤ tnv11.toInt ∧ tnv11.toInt ≤ 6 from by omega) (show 0 ≤ tnv16.toInt ∧ tnv16.toInt ≤ 2 from by omega) hp_tng3_0 hp_tng4_0 hp_tng5_0 hp_tng6_0 hp_tng9_0 hp_tng10_0) (cwV 6 hts (gV tw_5_151 tw_5_153 tw_p_34 tw_1_12 tw_5_154) rfl rfl rfl hdV_X3_weighLanes ⟨Nat.le_of_ble_eq_true rfl, Nat.le_of_ble_eq_true rfl⟩) (cz_V hK hPc hDc hN (ci := 3) (q0 := 0) rfl rfl [.ref tn, .int p1, .int x_33, .int p3, .long x_36, .int 9]) rfl rfl hl.1 rfl (lv_room (Nat.le_of_ble_eq_true rfl)) dX3_weighLanes_135 ⟨Nat.le_of_ble_eq_true rfl, Nat.le_of_ble_eq_true rfl⟩) hS (fun q _ h => hFc q h) hFc (fun uZ tZ H1 locs ht hvm hw hB hz1 hk1 hS => ?_)
        obtain ⟨o_39, o_40, o_41, o_42⟩ := uZ
        obtain ⟨hP1, hK1, hD1⟩ := hB
        rw [ht] at hP1
        obtain ⟨hP, hD⟩ := va_join (wr := []) (w1 := [(ob, .inr (3, [.ref oba, .ref ob_1])), (oba, .inr (1, [.ref oba_0, .int o_39, .int o_40])), (oba_0, .inl (k 0, 8, .inl o_41)), (ob_1, .inl (k 2, 1000, .inr (.inl o_42))), (tn, .inr (10, [.int tnv0, .int tnv1, .int tnv2, .ref tn_3, .ref tn_4, .ref tn_5, .ref tn_6, .int tnv7, .int tnv8, .ref tn_9, .ref tn_10, .int tnv11, .ref tn_12, .ref tn_13, .ref tn_14, .ref tn_15, .int tnv16, .ref tn_17, .ref tn_18, .ref tnt])), (tn_3, .inl (k 0, 10, .inl tng3)), (tn_4, .inl (k 0, 10, .inl tng4)), (tn_5, .inl (k 0, 10, .inl tng5)), (tn_6, .inl (k 0, 10, .inl tng6)), (tn_9, .inl (k 0, 4, .inl tng9)), (tn_10, .inl (k 0, 4, .inl tng10))]) hP hD [0, 3, 4, 1, 5, 6, 7, 8, 2, 9, 10] [] rfl rfl (by decide +kernel) (by decide +kernel) hk1 hFc hP1 hD1
        clear hK1 hP1 hD1 hPc hDc hFc
        clear hk1 hz1 ht hvm
        have hP : va_P D vwCl [(ob, .inr (3, [.ref oba, .ref ob_1])), (oba, .inr (1, [.ref oba_0, .int o_39, .int o_40])), (oba_0, .inl (k 0, 8, .inl o_41)), (ob_1, .inl (k 2, 1000, .inr (.inl o_42))), (tn, .inr (10, [.int tnv0, .int tnv1, .int tnv2, .ref tn_3, .ref tn_4, .ref tn_5, .ref tn_6, .int tnv7, .int tnv8, .ref tn_9, .ref tn_10, .int tnv11, .ref tn_12, .ref tn_13, .ref tn_14, .ref tn_15, .int tnv16, .ref tn_17, .ref tn_18, .ref tnt])), (tn_3, .inl (k 0, 10, .inl tng3)), (tn_4, .inl (k 0, 10, .inl tng4)), (tn_5, .inl (k 0, 10, .inl tng5)), (tn_6, .inl (k 0, 10, .inl tng6)), (tn_9, .inl (k 0, 4, .inl tng9)), (tn_10, .inl (k 0, 4, .inl tng10))] H1 := hP
        have hD : va_D A [(ob, .inr (3, [.ref oba, .ref ob_1])), (oba, .inr (1, [.ref oba_0, .int o_39, .int o_40])), (oba_0, .inl (k 0, 8, .inl o_41)), (ob_1, .inl (k 2, 1000, .inr (.inl o_42))), (tn, .inr (10, [.int tnv0, .int tnv1, .int tnv2, .ref tn_3, .ref tn_4, .ref tn_5, .ref tn_6, .int tnv7, .int tnv8, .ref tn_9, .ref tn_10, .int tnv11, .ref tn_12, .ref tn_13, .ref tn_14, .ref tn_15, .int tnv16, .ref tn_17, .ref tn_18, .ref tnt])), (tn_3, .inl (k 0, 10, .inl tng3)), (tn_4, .inl (k 0, 10, .inl tng4)), (tn_5, .inl (k 0, 10, .inl tng5)), (tn_6, .inl (k 0, 10, .inl tng6)), (tn_9, .inl (k 0, 4, .inl tng9)), (tn_10, .inl (k 0, 4, .inl tng10))] := hD
        generalize H1 = H at hP hS ⊢
        have hw_43 : (PR 8 1 0 0 1000000 o_41) := hw
        have hw_44 := hw_43
        clear hw
        refine lv_aload_n hx hb dX3_weighLanes_138 rfl (lv_at hl 5 rfl) ?_
        refine lv_aload_n hx hb dX3_weighLanes_139 rfl (lv_at hl 6 rfl) ?_
        refine lv_iload_n hx hb dX3_weighLanes_140 rfl (lv_at hl 7 rfl) ?_
        refine lv_iload_n hx hb dX3_weighLanes_141 rfl (lv_at hl 8 rfl) ?_
        refine lv_iload hx hb dX3_weighLanes_142 (lv_at hl 1 rfl) ?_
        refine lv_ior hx hb dX3_weighLanes_144 ?_
        refine lv_topi (fun x_45 ex_45 => ?_)
        obtain rfl : x_33 = x_45 := ex_33.trans ex_45.symm
        refine lv_iload hx hb dX3_weighLanes_145 (lv_at hl 9 rfl) ?_
        refine lv_iload hx hb dX3_weighLanes_147 (lv_at hl 1 rfl) ?_
        refine lv_ior hx hb dX3_weighLanes_149 ?_
        refine lv_topi (fun x_46 ex_46 => ?_)
        have zrp3 := z_rng p3
        refine lv_lload hx hb dX3_weighLanes_150 (lv_at hl 0 rfl) ?_
        refine lv_aload_n hx hb dX3_weighLanes_152 rfl (lv_at hl 6 rfl) ?_
        refine va_get (D := D) (ci := 10) (v := .ref tn_6) (C := RX10) (T := TX10) (N := 20) hx hb hts iT_X10 hown hK hP 4 rfl rfl 6 (by decide) (hts _ tw_1_98) (fun _ h9 => h9) rfl dX3_weighLanes_153 ?_
        refine lv_iload hx hb dX3_weighLanes_156 (lv_at hl 2 rfl) ?_
        refine va_iald hx hb hK hP 8 0 rfl rfl (z_in (by omega) (by omega)) dX3_weighLanes_158 ?_
        refine lv_topi (fun x_47 ex_47 => ?_)
        obtain rfl : x_34 = x_47 := ex_34.trans ex_47.symm
        refine lv_i2l (v := x_34.toInt64) hx hb dX3_weighLanes_159 rfl ?_
        refine lv_lmul hx hb dX3_weighLanes_160 ?_
        refine lv_topl (fun x_48 ex_48 => ?_)
        refine lv_iload hx hb dX3_weighLanes_161 (lv_at hl 11 rfl) ?_
        refine lv_iconst (v := 1) hx hb dX3_weighLanes_163 (by decide) ?_
        refine lv_iadd hx hb dX3_weighLanes_164 ?_
        refine lv_topi (fun x_49 ex_49 => ?_)
        obtain rfl : x_49 = 9 := ex_49.trans (by decide)
        obtain ⟨hPc, hDc, hFc⟩ := sub3 hP hD hS hA (ws' := [(ob, .inr (3, [.ref oba, .ref ob_1])), (oba, .inr (1, [.ref oba_0, .int o_39, .int o_40])), (oba_0, .inl (k 0, 8, .inl o_41)), (ob_1, .inl (k 2, 1000, .inr (.inl o_42))), (tn, .inr (10, [.int tnv0, .int tnv1, .int tnv2, .ref tn_3, .ref tn_4, .ref tn_5, .ref tn_6, .int tnv7, .int tnv8, .ref tn_9, .ref tn_10, .int tnv11, .ref tn_12, .ref tn_13, .ref tn_14, .ref tn_15, .int tnv16, .ref tn_17, .ref tn_18, .ref tnt])), (tn_3, .inl (k 0, 10, .inl tng3)), (tn_4, .inl (k 0, 10, .inl tng4)), (tn_5, .inl (k 0, 10, .inl tng5)), (tn_6, .inl (k 0, 10, .inl tng6)), (tn_9, .inl (k 0, 4, .inl tng9)), (tn_10, .inl (k 0, 4, .inl tng10))]) [0, 1, 2, 3, 4, 5, 6, 7, 8, 9, 10] (by decide +kernel) rfl
        refine va_callv (va_runV (C := RX3) (As := [.ref tn, .int p1, .int x_33, .int x_46, .long x_48, .int 9]) (rest := []) ⟨hx, hb, hml, hown, hts⟩ (c_X3_weighLanes_1 l D k ob tn p1 x_33 x_46 x_48 oba ob_1 oba_0 o_39 o_40 o_41 o_42 tnv0 tnv1 tnv2 tn_3 tn_4 tn_5 tn_6 tnv7 tnv8 tn_9 tn_10 tnv11 tn_12 tn_13 tn_14 tn_15 tnv16 tn_17 tn_18 tnt tng3 tng4 tng5 tng6 tng9 tng10 H.size (show 0 ≤ p1.toInt ∧ p1.toInt ≤ 7 from by omega) hw_44 (show 0 ≤ tnv0.toInt ∧ tnv0.toInt ≤ 8 from by omega) (show 0 ≤ tnv2.toInt ∧ tnv2.toInt ≤ 10 from by omega) (show 0 ≤ tnv8.toInt ∧ tnv8.toInt ≤ 4 from by omega) (show 0 ≤ tnv11.toInt ∧ tnv11.toInt ≤ 6 from by omega) (show 0 ≤ tnv16.toInt ∧ tnv16.toInt ≤ 2 from by omega) hp_tng3_0 hp_tng4_0 hp_tng5_0 hp_tng6_0 hp_tng9_0 hp_tng10_0) (cwV 6 hts (gV tw_5_151 tw_5_153 tw_p_34 tw_1_12 tw_5_154) rfl rfl rfl hdV_X3_weighLanes ⟨Nat.le_of_ble_eq_true rfl, Nat.le_of_ble_eq_true rfl⟩) (cz_V hK hPc hDc hN (ci := 3) (q0 := 0) rfl rfl [.ref tn, .int p1, .int x_33, .int x_46, .long x_48, .int 9]) rfl rfl hl.1 rfl (lv_room (Nat.le_of_ble_eq_true rfl)) dX3_weighLanes_165 ⟨Nat.le_of_ble_eq_true rfl, Nat.le_of_ble_eq_true rfl⟩) hS (fun q _ h => hFc q h) hFc (fun uZ tZ H1 locs ht hvm hw hB hz1 hk1 hS => ?_)
        obtain ⟨o_51, o_52, o_53, o_54⟩ := uZ
        obtain ⟨hP1, hK1, hD1⟩ := hB
        rw [ht] at hP1
        obtain ⟨hP, hD⟩ := va_join (wr := []) (w1 := [(ob, .inr (3, [.ref oba, .ref ob_1])), (oba, .inr (1, [.ref oba_0, .int o_51, .int o_52])), (oba_0, .inl (k 0, 8, .inl o_53)), (ob_1, .inl (k 2, 1000, .inr (.inl o_54))), (tn, .inr (10, [.int tnv0, .int tnv1, .int tnv2, .ref tn_3, .ref tn_4, .ref tn_5, .ref tn_6, .int tnv7, .int tnv8, .ref tn_9, .ref tn_10, .int tnv11, .ref tn_12, .ref tn_13, .ref tn_14, .ref tn_15, .int tnv16, .ref tn_17, .ref tn_18, .ref tnt])), (tn_3, .inl (k 0, 10, .inl tng3)), (tn_4, .inl (k 0, 10, .inl tng4)), (tn_5, .inl (k 0, 10, .inl tng5)), (tn_6, .inl (k 0, 10, .inl tng6)), (tn_9, .inl (k 0, 4, .inl tng9)), (tn_10, .inl (k 0, 4, .inl tng10))]) hP hD [0, 1, 2, 3, 4, 5, 6, 7, 8, 9, 10] [] rfl rfl (by decide +kernel) (by decide +kernel) hk1 hFc hP1 hD1
        clear hK1 hP1 hD1 hPc hDc hFc
        clear hk1 hz1 ht hvm
        have hP : va_P D vwCl [(ob, .inr (3, [.ref oba, .ref ob_1])), (oba, .inr (1, [.ref oba_0, .int o_51, .int o_52])), (oba_0, .inl (k 0, 8, .inl o_53)), (ob_1, .inl (k 2, 1000, .inr (.inl o_54))), (tn, .inr (10, [.int tnv0, .int tnv1, .int tnv2, .ref tn_3, .ref tn_4, .ref tn_5, .ref tn_6, .int tnv7, .int tnv8, .ref tn_9, .ref tn_10, .int tnv11, .ref tn_12, .ref tn_13, .ref tn_14, .ref tn_15, .int tnv16, .ref tn_17, .ref tn_18, .ref tnt])), (tn_3, .inl (k 0, 10, .inl tng3)), (tn_4, .inl (k 0, 10, .inl tng4)), (tn_5, .inl (k 0, 10, .inl tng5)), (tn_6, .inl (k 0, 10, .inl tng6)), (tn_9, .inl (k 0, 4, .inl tng9)), (tn_10, .inl (k 0, 4, .inl tng10))] H1 := hP
        have hD : va_D A [(ob, .inr (3, [.ref oba, .ref ob_1])), (oba, .inr (1, [.ref oba_0, .int o_51, .int o_52])), (oba_0, .inl (k 0, 8, .inl o_53)), (ob_1, .inl (k 2, 1000, .inr (.inl o_54))), (tn, .inr (10, [.int tnv0, .int tnv1, .int tnv2, .ref tn_3, .ref tn_4, .ref tn_5, .ref tn_6, .int tnv7, .int tnv8, .ref tn_9, .ref tn_10, .int tnv11, .ref tn_12, .ref tn_13, .ref tn_14, .ref tn_15, .int tnv16, .ref tn_17, .ref tn_18, .ref tnt])), (tn_3, .inl (k 0, 10, .inl tng3)), (tn_4, .inl (k 0, 10, .inl tng4)), (tn_5, .inl (k 0, 10, .inl tng5)), (tn_6, .inl (k 0, 10, .inl tng6)), (tn_9, .inl (k 0, 4, .inl tng9)), (tn_10, .inl (k 0, 4, .inl tng10))] := hD
        generalize H1 = H at hP hS ⊢
        have hw_55 : (PR 8 1 0 0 1000000 o_53) := hw
        have hw_56 := hw_55
        clear hw
        obtain ⟨hP9, hD9⟩ := sub2 hP hD (ws' := [(ob, .inr (3, [.ref oba, .ref ob_1])), (oba, .inr (1, [.ref oba_0, .int o_51, .int o_52])), (oba_0, .inl (k 0, 8, .inl o_53)), (ob_1, .inl (k 2, 1000, .inr (.inl o_54))), (tn, .inr (10, [.int tnv0, .int tnv1, .int tnv2, .ref tn_3, .ref tn_4, .ref tn_5, .ref tn_6, .int tnv7, .int tnv8, .ref tn_9, .ref tn_10, .int tnv11, .ref tn_12, .ref tn_13, .ref tn_14, .ref tn_15, .int tnv16, .ref tn_17, .ref tn_18, .ref tnt])), (tn_3, .inl (k 0, 10, .inl tng3)), (tn_4, .inl (k 0, 10, .inl tng4)), (tn_5, .inl (k 0, 10, .inl tng5)), (tn_6, .inl (k 0, 10, .inl tng6)), (tn_9, .inl (k 0, 4, .inl tng9)), (tn_10, .inl (k 0, 4, .inl tng10))]) [0, 1, 2, 3, 4, 5, 6, 7, 8, 9, 10] (by decide +kernel) rfl
        exact W.vret hx hb hr (fun tZ ht hW => ⟨⟨(o_51, o_52, o_53, o_54), rfl, hw_56, by rw [ht]; exact hP9, va_K.moved hW.alike hK, hD9⟩, hS.F ht⟩) hS.2.2 dX3_weighLanes_168
  · skip
    have zh_11 : 1000 ≤ x_10.toInt := z_nlt h_11
    obtain ⟨hP9, hD9⟩ := sub2 hP hD (ws' := [(ob, .inr (3, [.ref oba, .ref ob_1])), (oba, .inr (1, [.ref oba_0, .int o_5, .int o_6])), (oba_0, .inl (k 0, 8, .inl o_7)), (ob_1, .inl (k 2, 1000, .inr (.inl obg1))), (tn, .inr (10, [.int tnv0, .int tnv1, .int tnv2, .ref tn_3, .ref tn_4, .ref tn_5, .ref tn_6, .int tnv7, .int tnv8, .ref tn_9, .ref tn_10, .int tnv11, .ref tn_12, .ref tn_13, .ref tn_14, .ref tn_15, .int tnv16, .ref tn_17, .ref tn_18, .ref tnt])), (tn_3, .inl (k 0, 10, .inl tng3)), (tn_4, .inl (k 0, 10, .inl tng4)), (tn_5, .inl (k 0, 10, .inl tng5)), (tn_6, .inl (k 0, 10, .inl tng6)), (tn_9, .inl (k 0, 4, .inl tng9)), (tn_10, .inl (k 0, 4, .inl tng10))]) [0, 3, 4, 1, 5, 6, 7, 8, 2, 9, 10] (by decide +kernel) rfl
    exact W.vret hx hb hr (fun tZ ht hW => ⟨⟨(o_5, o_6, o_7, obg1), rfl, hw_9, by rw [ht]; exact hP9, va_K.moved hW.alike hK, hD9⟩, hS.F ht⟩) hS.2.2 dX3_weighLanes_33
set_option maxHeartbeats 4000000 in
set_option maxRecDepth 100000 in
theorem c_X3_weighLanes_3 (l : Launch) (D : va_G) (k : Nat → ClassId) (ob : Nat) (tn : Nat) (p1 : Int32) (p2 : Int32) (p3 : Int32) (p4 : Int64) (oba : Nat) (ob_1 : Nat) (oba_0 : Nat) (obav1 : Int32) (obav2 : Int32) (obag0 : Nat → Int32) (obg1 : Nat → Int64) (tnv0 : Int32) (tnv1 : Int32) (tnv2 : Int32) (tn_3 : Nat) (tn_4 : Nat) (tn_5 : Nat) (tn_6 : Nat) (tnv7 : Int32) (tnv8 : Int32) (tn_9 : Nat) (tn_10 : Nat) (tnv11 : Int32) (tn_12 : Nat) (tn_13 : Nat) (tn_14 : Nat) (tn_15 : Nat) (tnv16 : Int32) (tn_17 : Nat) (tn_18 : Nat) (tnt : Nat) (tng3 : Nat → Int32) (tng4 : Nat → Int32) (tng5 : Nat → Int32) (tng6 : Nat → Int32) (tng9 : Nat → Int32) (tng10 : Nat → Int32) (sz : Nat) (h_p1 : 0 ≤ p1.toInt ∧ p1.toInt ≤ 7) (hp_obag0_0 : PR 8 1 0 0 1000000 obag0) (h_tnv0 : 0 ≤ tnv0.toInt ∧ tnv0.toInt ≤ 8) (h_tnv2 : 0 ≤ tnv2.toInt ∧ tnv2.toInt ≤ 10) (h_tnv8 : 0 ≤ tnv8.toInt ∧ tnv8.toInt ≤ 4) (h_tnv11 : 0 ≤ tnv11.toInt ∧ tnv11.toInt ≤ 6) (h_tnv16 : 0 ≤ tnv16.toInt ∧ tnv16.toInt ≤ 2) (hp_tng3_0 : PR 10 1 0 0 7 tng3) (hp_tng4_0 : PR 10 1 0 0 7 tng4) (hp_tng5_0 : PR 10 1 0 0 60 tng5) (hp_tng6_0 : PR 10 1 0 0 10 tng6) (hp_tng9_0 : PR 4 1 0 0 7 tng9) (hp_tng10_0 : PR 4 1 0 0 99 tng10) : Met l yX3_weighLanes (ww yX3_weighLanes cX3_weighLanes 14 none) ({ frames := 7, cells := 0, slots := 0, locals := 199 }) (Pre0 D k [(ob, .inr (3, [.ref oba, .ref ob_1])), (oba, .inr (1, [.ref oba_0, .int obav1, .int obav2])), (oba_0, .inl (k 0, 8, .inl obag0)), (ob_1, .inl (k 2, 1000, .inr (.inl obg1))), (tn, .inr (10, [.int tnv0, .int tnv1, .int tnv2, .ref tn_3, .ref tn_4, .ref tn_5, .ref tn_6, .int tnv7, .int tnv8, .ref tn_9, .ref tn_10, .int tnv11, .ref tn_12, .ref tn_13, .ref tn_14, .ref tn_15, .int tnv16, .ref tn_17, .ref tn_18, .ref tnt])), (tn_3, .inl (k 0, 10, .inl tng3)), (tn_4, .inl (k 0, 10, .inl tng4)), (tn_5, .inl (k 0, 10, .inl tng5)), (tn_6, .inl (k 0, 10, .inl tng6)), (tn_9, .inl (k 0, 4, .inl tng9)), (tn_10, .inl (k 0, 4, .inl tng10))] sz [.ref ob, .ref tn, .int p1, .int p2, .int p3, .long p4, .int 7]) (va_Qv (fun (u : Int32 × Int32 × (Nat → Int32) × (Nat → Int64)) => match u with | (obav1z, obav2z, obag0z, obg1z) => (PR 8 1 0 0 1000000 obag0z)) (fun (u : Int32 × Int32 × (Nat → Int32) × (Nat → Int64)) tZ => match u with | (obav1z, obav2z, obag0z, obg1z) => Bw D k (va_A [(ob, .inr (3, [.ref oba, .ref ob_1])), (oba, .inr (1, [.ref oba_0, .int obav1, .int obav2])), (oba_0, .inl (k 0, 8, .inl obag0)), (ob_1, .inl (k 2, 1000, .inr (.inl obg1))), (tn, .inr (10, [.int tnv0, .int tnv1, .int tnv2, .ref tn_3, .ref tn_4, .ref tn_5, .ref tn_6, .int tnv7, .int tnv8, .ref tn_9, .ref tn_10, .int tnv11, .ref tn_12, .ref tn_13, .ref tn_14, .ref tn_15, .int tnv16, .ref tn_17, .ref tn_18, .ref tnt])), (tn_3, .inl (k 0, 10, .inl tng3)), (tn_4, .inl (k 0, 10, .inl tng4)), (tn_5, .inl (k 0, 10, .inl tng5)), (tn_6, .inl (k 0, 10, .inl tng6)), (tn_9, .inl (k 0, 4, .inl tng9)), (tn_10, .inl (k 0, 4, .inl tng10))] sz) [(ob, .inr (3, [.ref oba, .ref ob_1])), (oba, .inr (1, [.ref oba_0, .int obav1z, .int obav2z])), (oba_0, .inl (k 0, 8, .inl obag0z)), (ob_1, .inl (k 2, 1000, .inr (.inl obg1z))), (tn, .inr (10, [.int tnv0, .int tnv1, .int tnv2, .ref tn_3, .ref tn_4, .ref tn_5, .ref tn_6, .int tnv7, .int tnv8, .ref tn_9, .ref tn_10, .int tnv11, .ref tn_12, .ref tn_13, .ref tn_14, .ref tn_15, .int tnv16, .ref tn_17, .ref tn_18, .ref tnt])), (tn_3, .inl (k 0, 10, .inl tng3)), (tn_4, .inl (k 0, 10, .inl tng4)), (tn_5, .inl (k 0, 10, .inl tng5)), (tn_6, .inl (k 0, 10, .inl tng6)), (tn_9, .inl (k 0, 4, .inl tng9)), (tn_10, .inl (k 0, 4, .inl tng10))] tZ) (va_A [(ob, .inr (3, [.ref oba, .ref ob_1])), (oba, .inr (1, [.ref oba_0, .int obav1, .int obav2])), (oba_0, .inl (k 0, 8, .inl obag0)), (ob_1, .inl (k 2, 1000, .inr (.inl obg1))), (tn, .inr (10, [.int tnv0, .int tnv1, .int tnv2, .ref tn_3, .ref tn_4, .ref tn_5, .ref tn_6, .int tnv7, .int tnv8, .ref tn_9, .ref tn_10, .int tnv11, .ref tn_12, .ref tn_13, .ref tn_14, .ref tn_15, .int tnv16, .ref tn_17, .ref tn_18, .ref tnt])), (tn_3, .inl (k 0, 10, .inl tng3)), (tn_4, .inl (k 0, 10, .inl tng4)), (tn_5, .inl (k 0, 10, .inl tng5)), (tn_6, .inl (k 0, 10, .inl tng6)), (tn_9, .inl (k 0, 4, .inl tng9)), (tn_10, .inl (k 0, 4, .inl tng10))] sz)) 0 0 (va_A [(ob, .inr (3, [.ref oba, .ref ob_1])), (oba, .inr (1, [.ref oba_0, .int obav1, .int obav2])), (oba_0, .inl (k 0, 8, .inl obag0)), (ob_1, .inl (k 2, 1000, .inr (.inl obg1))), (tn, .inr (10, [.int tnv0, .int tnv1, .int tnv2, .ref tn_3, .ref tn_4, .ref tn_5, .ref tn_6, .int tnv7, .int tnv8, .ref tn_9, .ref tn_10, .int tnv11, .ref tn_12, .ref tn_13, .ref tn_14, .ref tn_15, .int tnv16, .ref tn_17, .ref tn_18, .ref tnt])), (tn_3, .inl (k 0, 10, .inl tng3)), (tn_4, .inl (k 0, 10, .inl tng4)), (tn_5, .inl (k 0, 10, .inl tng5)), (tn_6, .inl (k 0, 10, .inl tng6)), (tn_9, .inl (k 0, 4, .inl tng9)), (tn_10, .inl (k 0, 4, .inl tng10))] sz) := by
  refine Met.ofW (cc := cX3_weighLanes) (maxL := 14) (ret := none) (by decide +kernel) rfl ?_
  intro p e s m args below meth c s₁ B hml hv
  obtain ⟨rfl, hsz, hP, hK, hD0, hN⟩ := hv
  have hx := B.exec
  have hb := B.bytes
  have hr := B.returns
  have hts : ∀ w ∈ TT, w.before _ s = true := fun w h => atoms_spec (ws := ww yX3_weighLanes cX3_weighLanes 14 none) B.pre w (List.mem_cons_of_mem _ h)
  have hown : s.vm.findClass RX3 = some m.cls := findClass_of_methodNamed B.named
  have hlocks := B.notSynchronized
  subst hsz
  have hD := hD0.self (sz := s.heap.size)
  generalize hAe : va_A [(ob, .inr (3, [.ref oba, .ref ob_1])), (oba, .inr (1, [.ref oba_0, .int obav1, .int obav2])), (oba_0, .inl (k 0, 8, .inl obag0)), (ob_1, .inl (k 2, 1000, .inr (.inl obg1))), (tn, .inr (10, [.int tnv0, .int tnv1, .int tnv2, .ref tn_3, .ref tn_4, .ref tn_5, .ref tn_6, .int tnv7, .int tnv8, .ref tn_9, .ref tn_10, .int tnv11, .ref tn_12, .ref tn_13, .ref tn_14, .ref tn_15, .int tnv16, .ref tn_17, .ref tn_18, .ref tnt])), (tn_3, .inl (k 0, 10, .inl tng3)), (tn_4, .inl (k 0, 10, .inl tng4)), (tn_5, .inl (k 0, 10, .inl tng5)), (tn_6, .inl (k 0, 10, .inl tng6)), (tn_9, .inl (k 0, 4, .inl tng9)), (tn_10, .inl (k 0, 4, .inl tng10))] s.heap.size = A at hD ⊢
  have hA : ∀ q : Nat, s.heap.size ≤ q → A q := fun q h => by rw [← hAe]; exact Or.inr h
  have hS : va_S A s.heap s.heap [] := va_S.rf
  have hl := lv_entry ([.ref ob, .ref tn, .int p1, .int p2, .int p3, .long p4, .int 7]) (n := 14) (Nat.le_of_ble_eq_true rfl)
  rw [lg_entry_eq]
  generalize (lg_sl ([.ref ob, .ref tn, .int p1, .int p2, .int p3, .long p4, .int 7]) ++ List.replicate (14 - (lg_sl ([.ref ob, .ref tn, .int p1, .int p2, .int p3, .long p4, .int 7])).length) Slot.unset).toArray = ls at hl ⊢
  have hl : lv_has ls 14 [(0, .ref ob), (1, .ref tn), (2, .int p1), (3, .int p2), (4, .int p3), (5, .long p4), (7, .int 7)] := hl
  refine lv_aload_n hx hb dX3_weighLanes_0 rfl (lv_at hl 0 rfl) ?_
  refine va_get (D := D) (ci := 3) (v := .ref oba) (C := RX3) (T := TX3) (N := 2) hx hb hts iT_X3 hown hK hP 0 rfl rfl 0 (by decide) (hts _ tw_2_163) (fun _ h9 => h9) rfl dX3_weighLanes_1 ?_
  refine lv_aload_n hx hb dX3_weighLanes_4 rfl (lv_at hl 1 rfl) ?_
  refine lv_aload_n hx hb dX3_weighLanes_5 rfl (lv_at hl 1 rfl) ?_
  obtain ⟨hPc, hDc, hFc⟩ := sub3 hP hD hS hA (ws' := [(tn, .inr (10, [.int tnv0, .int tnv1, .int tnv2, .ref tn_3, .ref tn_4, .ref tn_5, .ref tn_6, .int tnv7, .int tnv8, .ref tn_9, .ref tn_10, .int tnv11, .ref tn_12, .ref tn_13, .ref tn_14, .ref tn_15, .int tnv16, .ref tn_17, .ref tn_18, .ref tnt]))]) [4] (by decide +kernel) rfl
  refine va_calli (va_runV (C := RX10) (As := []) (rest := [.ref tn, .ref oba]) ⟨hx, hb, hml, hown, hts⟩ (c_X10_openLanes l D k tn tnv0 tnv1 tnv2 tn_3 tn_4 tn_5 tn_6 tnv7 tnv8 tn_9 tn_10 tnv11 tn_12 tn_13 tn_14 tn_15 tnv16 tn_17 tn_18 tnt s.heap.size (show 0 ≤ tnv0.toInt ∧ tnv0.toInt ≤ 8 from by omega) (show 0 ≤ tnv2.toInt ∧ tnv2.toInt ≤ 10 from by omega) (show 0 ≤ tnv8.toInt ∧ tnv8.toInt ≤ 4 from by omega) (show 0 ≤ tnv11.toInt ∧ tnv11.toInt ≤ 6 from by omega) (show 0 ≤ tnv16.toInt ∧ tnv16.toInt ≤ 2 from by omega)) (cwV 0 hts (gV tw_5_155 tw_3_180 tw_3_181 tw_1_3 tw_3_182) rfl rfl rfl hdV_X10_openLanes ⟨Nat.le_of_ble_eq_true rfl, Nat.le_of_ble_eq_true rfl⟩) (cz_V hK hPc hDc hN (ci := 10) (q0 := 0) rfl rfl []) rfl rfl hl.1 rfl (lv_room (Nat.le_of_ble_eq_true rfl)) dX3_weighLanes_6 ⟨Nat.le_of_ble_eq_true rfl, Nat.le_of_ble_eq_true rfl⟩) hS (fun q _ h => hFc q h) hFc (fun r_1 uZ tZ H1 locs ht hvm hw hB hz1 hk1 hS => ?_)
  obtain ⟨hP1, hK1, hD1⟩ := hB
  rw [ht] at hP1
  obtain ⟨hP, hD⟩ := va_join (wr := [(ob, .inr (3, [.ref oba, .ref ob_1])), (oba, .inr (1, [.ref oba_0, .int obav1, .int obav2])), (oba_0, .inl (k 0, 8, .inl obag0)), (ob_1, .inl (k 2, 1000, .inr (.inl obg1))), (tn_3, .inl (k 0, 10, .inl tng3)), (tn_4, .inl (k 0, 10, .inl tng4)), (tn_5, .inl (k 0, 10, .inl tng5)), (tn_6, .inl (k 0, 10, .inl tng6)), (tn_9, .inl (k 0, 4, .inl tng9)), (tn_10, .inl (k 0, 4, .inl tng10))]) (w1 := [(tn, .inr (10, [.int tnv0, .int tnv1, .int tnv2, .ref tn_3, .ref tn_4, .ref tn_5, .ref tn_6, .int tnv7, .int tnv8, .ref tn_9, .ref tn_10, .int tnv11, .ref tn_12, .ref tn_13, .ref tn_14, .ref tn_15, .int tnv16, .ref tn_17, .ref tn_18, .ref tnt]))]) hP hD [4] [0, 1, 2, 3, 5, 6, 7, 8, 9, 10] rfl rfl (by decide +kernel) (by decide +kernel) hk1 hFc hP1 hD1
  clear hK1 hP1 hD1 hPc hDc hFc
  clear hk1 hz1 ht hvm
  have hP : va_P D vwCl [(ob, .inr (3, [.ref oba, .ref ob_1])), (oba, .inr (1, [.ref oba_0, .int obav1, .int obav2])), (oba_0, .inl (k 0, 8, .inl obag0)), (ob_1, .inl (k 2, 1000, .inr (.inl obg1))), (tn_3, .inl (k 0, 10, .inl tng3)), (tn_4, .inl (k 0, 10, .inl tng4)), (tn_5, .inl (k 0, 10, .inl tng5)), (tn_6, .inl (k 0, 10, .inl tng6)), (tn_9, .inl (k 0, 4, .inl tng9)), (tn_10, .inl (k 0, 4, .inl tng10)), (tn, .inr (10, [.int tnv0, .int tnv1, .int tnv2, .ref tn_3, .ref tn_4, .ref tn_5, .ref tn_6, .int tnv7, .int tnv8, .ref tn_9, .ref tn_10, .int tnv11, .ref tn_12, .ref tn_13, .ref tn_14, .ref tn_15, .int tnv16, .ref tn_17, .ref tn_18, .ref tnt]))] H1 := hP
  have hD : va_D A [(ob, .inr (3, [.ref oba, .ref ob_1])), (oba, .inr (1, [.ref oba_0, .int obav1, .int obav2])), (oba_0, .inl (k 0, 8, .inl obag0)), (ob_1, .inl (k 2, 1000, .inr (.inl obg1))), (tn_3, .inl (k 0, 10, .inl tng3)), (tn_4, .inl (k 0, 10, .inl tng4)), (tn_5, .inl (k 0, 10, .inl tng5)), (tn_6, .inl (k 0, 10, .inl tng6)), (tn_9, .inl (k 0, 4, .inl tng9)), (tn_10, .inl (k 0, 4, .inl tng10)), (tn, .inr (10, [.int tnv0, .int tnv1, .int tnv2, .ref tn_3, .ref tn_4, .ref tn_5, .ref tn_6, .int tnv7, .int tnv8, .ref tn_9, .ref tn_10, .int tnv11, .ref tn_12, .ref tn_13, .ref tn_14, .ref tn_15, .int tnv16, .ref tn_17, .ref tn_18, .ref tnt]))] := hD
  generalize H1 = H at hP hS ⊢
  have hw_2 : (0 ≤ r_1.toInt ∧ r_1.toInt ≤ 1023) := hw
  have hw_3 := hw_2
  clear hw
  refine lv_iload hx hb dX3_weighLanes_9 (lv_at hl 4 rfl) ?_
  obtain ⟨hPc, hDc, hFc⟩ := sub3 hP hD hS hA (ws' := [(oba, .inr (1, [.ref oba_0, .int obav1, .int obav2])), (oba_0, .inl (k 0, 8, .inl obag0)), (tn, .inr (10, [.int tnv0, .int tnv1, .int tnv2, .ref tn_3, .ref tn_4, .ref tn_5, .ref tn_6, .int tnv7, .int tnv8, .ref tn_9, .ref tn_10, .int tnv11, .ref tn_12, .ref tn_13, .ref tn_14, .ref tn_15, .int tnv16, .ref tn_17, .ref tn_18, .ref tnt])), (tn_3, .inl (k 0, 10, .inl tng3)), (tn_4, .inl (k 0, 10, .inl tng4)), (tn_5, .inl (k 0, 10, .inl tng5)), (tn_9, .inl (k 0, 4, .inl tng9)), (tn_10, .inl (k 0, 4, .inl tng10))]) [1, 2, 10, 4, 5, 6, 8, 9] (by decide +kernel) rfl
  refine va_callv (va_runV (C := RX1) (As := [.ref tn, .int r_1, .int p3]) (rest := []) ⟨hx, hb, hml, hown, hts⟩ (c_X1_fall l D k oba tn r_1 p3 oba_0 obav1 obav2 obag0 tnv0 tnv1 tnv2 tn_3 tn_4 tn_5 tn_6 tnv7 tnv8 tn_9 tn_10 tnv11 tn_12 tn_13 tn_14 tn_15 tnv16 tn_17 tn_18 tnt tng3 tng4 tng5 tng9 tng10 H.size hp_obag0_0 (show 0 ≤ tnv0.toInt ∧ tnv0.toInt ≤ 8 from by omega) (show 0 ≤ tnv2.toInt ∧ tnv2.toInt ≤ 10 from by omega) (show 0 ≤ tnv8.toInt ∧ tnv8.toInt ≤ 4 from by omega) (show 0 ≤ tnv11.toInt ∧ tnv11.toInt ≤ 6 from by omega) (show 0 ≤ tnv16.toInt ∧ tnv16.toInt ≤ 2 from by omega) hp_tng3_0 hp_tng4_0 hp_tng5_0 hp_tng9_0 hp_tng10_0) (cwV 3 hts (gV tw_5_156 tw_3_184 tw_3_185 tw_1_6 tw_3_186) rfl rfl rfl hdV_X1_fall ⟨Nat.le_of_ble_eq_true rfl, Nat.le_of_ble_eq_true rfl⟩) (cz_V hK hPc hDc hN (ci := 1) (q0 := 0) rfl rfl [.ref tn, .int r_1, .int p3]) rfl rfl hl.1 rfl (lv_room (Nat.le_of_ble_eq_true rfl)) dX3_weighLanes_11 ⟨Nat.le_of_ble_eq_true rfl, Nat.le_of_ble_eq_true rfl⟩) hS (fun q _ h => hFc q h) hFc (fun uZ tZ H1 locs ht hvm hw hB hz1 hk1 hS => ?_)
  obtain ⟨o_5, o_6, o_7⟩ := uZ
  obtain ⟨hP1, hK1, hD1⟩ := hB
  rw [ht] at hP1
  obtain ⟨hP, hD⟩ := va_join (wr := [(ob, .inr (3, [.ref oba, .ref ob_1])), (ob_1, .inl (k 2, 1000, .inr (.inl obg1))), (tn_6, .inl (k 0, 10, .inl tng6))]) (w1 := [(oba, .inr (1, [.ref oba_0, .int o_5, .int o_6])), (oba_0, .inl (k 0, 8, .inl o_7)), (tn, .inr (10, [.int tnv0, .int tnv1, .int tnv2, .ref tn_3, .ref tn_4, .ref tn_5, .ref tn_6, .int tnv7, .int tnv8, .ref tn_9, .ref tn_10, .int tnv11, .ref tn_12, .ref tn_13, .ref tn_14, .ref tn_15, .int tnv16, .ref tn_17, .ref tn_18, .ref tnt])), (tn_3, .inl (k 0, 10, .inl tng3)), (tn_4, .inl (k 0, 10, .inl tng4)), (tn_5, .inl (k 0, 10, .inl tng5)), (tn_9, .inl (k 0, 4, .inl tng9)), (tn_10, .inl (k 0, 4, .inl tng10))]) hP hD [1, 2, 10, 4, 5, 6, 8, 9] [0, 3, 7] rfl rfl (by decide +kernel) (by decide +kernel) hk1 hFc hP1 hD1
  clear hK1 hP1 hD1 hPc hDc hFc
  clear hk1 hz1 ht hvm
  have hP : va_P D vwCl [(ob, .inr (3, [.ref oba, .ref ob_1])), (ob_1, .inl (k 2, 1000, .inr (.inl obg1))), (tn_6, .inl (k 0, 10, .inl tng6)), (oba, .inr (1, [.ref oba_0, .int o_5, .int o_6])), (oba_0, .inl (k 0, 8, .inl o_7)), (tn, .inr (10, [.int tnv0, .int tnv1, .int tnv2, .ref tn_3, .ref tn_4, .ref tn_5, .ref tn_6, .int tnv7, .int tnv8, .ref tn_9, .ref tn_10, .int tnv11, .ref tn_12, .ref tn_13, .ref tn_14, .ref tn_15, .int tnv16, .ref tn_17, .ref tn_18, .ref tnt])), (tn_3, .inl (k 0, 10, .inl tng3)), (tn_4, .inl (k 0, 10, .inl tng4)), (tn_5, .inl (k 0, 10, .inl tng5)), (tn_9, .inl (k 0, 4, .inl tng9)), (tn_10, .inl (k 0, 4, .inl tng10))] H1 := hP
  have hD : va_D A [(ob, .inr (3, [.ref oba, .ref ob_1])), (ob_1, .inl (k 2, 1000, .inr (.inl obg1))), (tn_6, .inl (k 0, 10, .inl tng6)), (oba, .inr (1, [.ref oba_0, .int o_5, .int o_6])), (oba_0, .inl (k 0, 8, .inl o_7)), (tn, .inr (10, [.int tnv0, .int tnv1, .int tnv2, .ref tn_3, .ref tn_4, .ref tn_5, .ref tn_6, .int tnv7, .int tnv8, .ref tn_9, .ref tn_10, .int tnv11, .ref tn_12, .ref tn_13, .ref tn_14, .ref tn_15, .int tnv16, .ref tn_17, .ref tn_18, .ref tnt])), (tn_3, .inl (k 0, 10, .inl tng3)), (tn_4, .inl (k 0, 10, .inl tng4)), (tn_5, .inl (k 0, 10, .inl tng5)), (tn_9, .inl (k 0, 4, .inl tng9)), (tn_10, .inl (k 0, 4, .inl tng10))] := hD
  generalize H1 = H at hP hS ⊢
  have hw_8 : (PR 8 1 0 0 1000000 o_7) := hw
  have hw_9 := hw_8
  clear hw
  refine lv_aload_n hx hb dX3_weighLanes_14 rfl (lv_at hl 0 rfl) ?_
  refine va_get (D := D) (ci := 3) (v := .ref oba) (C := RX3) (T := TX3) (N := 2) hx hb hts iT_X3 hown hK hP 0 rfl rfl 0 (by decide) (hts _ tw_2_163) (fun _ h9 => h9) rfl dX3_weighLanes_15 ?_
  refine va_get (D := D) (ci := 1) (v := .ref oba_0) (C := RX1) (T := TX1) (N := 3) hx hb hts iT_X1 hown hK hP 3 rfl rfl 0 (by decide) (hts _ tw_2_21) (fun _ h9 => h9) rfl dX3_weighLanes_18 ?_
  refine lv_iload_n hx hb dX3_weighLanes_21 rfl (lv_at hl 2 rfl) ?_
  refine va_iald hx hb hK hP 4 0 rfl rfl (z_in (by omega) (by omega)) dX3_weighLanes_22 ?_
  refine lv_topi (fun x_10 ex_10 => ?_)
  have zx_10r0 : 0 ≤ x_10.toInt ∧ x_10.toInt ≤ 1000000 := by rw [ex_10]; exact PR.ld hw_9 (by omega) (by omega) (by omega)
  refine lv_istore (lv' := [(8, .int x_10), (0, .ref ob), (1, .ref tn), (2, .int p1), (3, .int p2), (4, .int p3), (5, .long p4), (7, .int 7)]) hx hb dX3_weighLanes_23 hl (by decide) rfl (fun ls hl => ?_)
  refine lv_iload hx hb dX3_weighLanes_25 (lv_at hl 0 rfl) ?_
  refine lv_sipush (v := 1000) hx hb dX3_weighLanes_27 (by decide) ?_
  refine lv_icmp_lt (tgt := 34) hx hb dX3_weighLanes_30 (by decide) (fun h_11 => ?_) (fun h_11 => ?_)
  · skip
    have zh_11 : x_10.toInt < 1000 := z_lt h_11
    refine lv_aload_n hx hb dX3_weighLanes_34 rfl (lv_at hl 1 rfl) ?_
    refine va_get (D := D) (ci := 3) (v := .ref oba) (C := RX3) (T := TX3) (N := 2) hx hb hts iT_X3 hown hK hP 0 rfl rfl 0 (by decide) (hts _ tw_2_163) (fun _ h9 => h9) rfl dX3_weighLanes_35 ?_
    refine lv_aload_n hx hb dX3_weighLanes_38 rfl (lv_at hl 2 rfl) ?_
    refine lv_iload_n hx hb dX3_weighLanes_39 rfl (lv_at hl 3 rfl) ?_
    obtain ⟨hPc, hDc, hFc⟩ := sub3 hP hD hS hA (ws' := [(oba, .inr (1, [.ref oba_0, .int o_5, .int o_6])), (oba_0, .inl (k 0, 8, .inl o_7)), (tn, .inr (10, [.int tnv0, .int tnv1, .int tnv2, .ref tn_3, .ref tn_4, .ref tn_5, .ref tn_6, .int tnv7, .int tnv8, .ref tn_9, .ref tn_10, .int tnv11, .ref tn_12, .ref tn_13, .ref tn_14, .ref tn_15, .int tnv16, .ref tn_17, .ref tn_18, .ref tnt])), (tn_3, .inl (k 0, 10, .inl tng3)), (tn_4, .inl (k 0, 10, .inl tng4)), (tn_5, .inl (k 0, 10, .inl tng5)), (tn_9, .inl (k 0, 4, .inl tng9)), (tn_10, .inl (k 0, 4, .inl tng10))]) [3, 4, 5, 6, 7, 8, 9, 10] (by decide +kernel) rfl
    refine va_calli (va_runV (C := RX1) (As := [.ref tn, .int p1]) (rest := []) ⟨hx, hb, hml, hown, hts⟩ (c_X1_wayTo l D k oba tn p1 oba_0 o_5 o_6 o_7 tnv0 tnv1 tnv2 tn_3 tn_4 tn_5 tn_6 tnv7 tnv8 tn_9 tn_10 tnv11 tn_12 tn_13 tn_14 tn_15 tnv16 tn_17 tn_18 tnt tng3 tng4 tng5 tng9 tng10 H.size (show 0 ≤ p1.toInt ∧ p1.toInt ≤ 7 from by omega) hw_9 (show 0 ≤ tnv0.toInt ∧ tnv0.toInt ≤ 8 from by omega) (show 0 ≤ tnv2.toInt ∧ tnv2.toInt ≤ 10 from by omega) (show 0 ≤ tnv8.toInt ∧ tnv8.toInt ≤ 4 from by omega) (show 0 ≤ tnv11.toInt ∧ tnv11.toInt ≤ 6 from by omega) (show 0 ≤ tnv16.toInt ∧ tnv16.toInt ≤ 2 from by omega) hp_tng3_0 hp_tng4_0 hp_tng5_0 hp_tng9_0 hp_tng10_0) (cwV 2 hts (gV tw_5_157 tw_4_96 tw_4_97 tw_1_6 tw_4_98) rfl rfl rfl hdV_X1_wayTo ⟨Nat.le_of_ble_eq_true rfl, Nat.le_of_ble_eq_true rfl⟩) (cz_V hK hPc hDc hN (ci := 1) (q0 := 0) rfl rfl [.ref tn, .int p1]) rfl rfl hl.1 rfl (lv_room (Nat.le_of_ble_eq_true rfl)) dX3_weighLanes_40 ⟨Nat.le_of_ble_eq_true rfl, Nat.le_of_ble_eq_true rfl⟩) hS (fun q _ h => hFc q h) hFc (fun r_12 uZ tZ H1 locs ht hvm hw hB hz1 hk1 hS => ?_)
    obtain ⟨hP1, hK1, hD1⟩ := hB
    rw [ht] at hP1
    obtain ⟨hP, hD⟩ := va_join (wr := [(ob, .inr (3, [.ref oba, .ref ob_1])), (ob_1, .inl (k 2, 1000, .inr (.inl obg1))), (tn_6, .inl (k 0, 10, .inl tng6))]) (w1 := [(oba, .inr (1, [.ref oba_0, .int o_5, .int o_6])), (oba_0, .inl (k 0, 8, .inl o_7)), (tn, .inr (10, [.int tnv0, .int tnv1, .int tnv2, .ref tn_3, .ref tn_4, .ref tn_5, .ref tn_6, .int tnv7, .int tnv8, .ref tn_9, .ref tn_10, .int tnv11, .ref tn_12, .ref tn_13, .ref tn_14, .ref tn_15, .int tnv16, .ref tn_17, .ref tn_18, .ref tnt])), (tn_3, .inl (k 0, 10, .inl tng3)), (tn_4, .inl (k 0, 10, .inl tng4)), (tn_5, .inl (k 0, 10, .inl tng5)), (tn_9, .inl (k 0, 4, .inl tng9)), (tn_10, .inl (k 0, 4, .inl tng10))]) hP hD [3, 4, 5, 6, 7, 8, 9, 10] [0, 1, 2] rfl rfl (by decide +kernel) (by decide +kernel) hk1 hFc hP1 hD1
    clear hK1 hP1 hD1 hPc hDc hFc
    clear hk1 hz1 ht hvm
    have hP : va_P D vwCl [(ob, .inr (3, [.ref oba, .ref ob_1])), (ob_1, .inl (k 2, 1000, .inr (.inl obg1))), (tn_6, .inl (k 0, 10, .inl tng6)), (oba, .inr (1, [.ref oba_0, .int o_5, .int o_6])), (oba_0, .inl (k 0, 8, .inl o_7)), (tn, .inr (10, [.int tnv0, .int tnv1, .int tnv2, .ref tn_3, .ref tn_4, .ref tn_5, .ref tn_6, .int tnv7, .int tnv8, .ref tn_9, .ref tn_10, .int tnv11, .ref tn_12, .ref tn_13, .ref tn_14, .ref tn_15, .int tnv16, .ref tn_17, .ref tn_18, .ref tnt])), (tn_3, .inl (k 0, 10, .inl tng3)), (tn_4, .inl (k 0, 10, .inl tng4)), (tn_5, .inl (k 0, 10, .inl tng5)), (tn_9, .inl (k 0, 4, .inl tng9)), (tn_10, .inl (k 0, 4, .inl tng10))] H1 := hP
    have hD : va_D A [(ob, .inr (3, [.ref oba, .ref ob_1])), (ob_1, .inl (k 2, 1000, .inr (.inl obg1))), (tn_6, .inl (k 0, 10, .inl tng6)), (oba, .inr (1, [.ref oba_0, .int o_5, .int o_6])), (oba_0, .inl (k 0, 8, .inl o_7)), (tn, .inr (10, [.int tnv0, .int tnv1, .int tnv2, .ref tn_3, .ref tn_4, .ref tn_5, .ref tn_6, .int tnv7, .int tnv8, .ref tn_9, .ref tn_10, .int tnv11, .ref tn_12, .ref tn_13, .ref tn_14, .ref tn_15, .int tnv16, .ref tn_17, .ref tn_18, .ref tnt])), (tn_3, .inl (k 0, 10, .inl tng3)), (tn_4, .inl (k 0, 10, .inl tng4)), (tn_5, .inl (k 0, 10, .inl tng5)), (tn_9, .inl (k 0, 4, .inl tng9)), (tn_10, .inl (k 0, 4, .inl tng10))] := hD
    generalize H1 = H at hP hS ⊢
    have hw_13 : (0 ≤ r_12.toInt ∧ r_12.toInt ≤ 1023) := hw
    have hw_14 := hw_13
    clear hw
    refine lv_iload_n hx hb dX3_weighLanes_43 rfl (lv_at hl 4 rfl) ?_
    refine lv_iconst (v := (-1)) hx hb dX3_weighLanes_44 (by decide) ?_
    refine lv_ixor hx hb dX3_weighLanes_45 ?_
    refine lv_topi (fun x_15 ex_15 => ?_)
    have zrp2 := z_rng p2
    refine lv_iand hx hb dX3_weighLanes_46 ?_
    refine lv_topi (fun x_16 ex_16 => ?_)
    have zrx_15 := z_rng x_15
    have zx_16 : 0 ≤ x_16.toInt ∧ x_16.toInt ≤ r_12.toInt := by rw [ex_16]; exact z_andL (by omega)
    refine lv_istore (lv' := [(9, .int x_16), (8, .int x_10), (0, .ref ob), (1, .ref tn), (2, .int p1), (3, .int p2), (4, .int p3), (5, .long p4), (7, .int 7)]) hx hb dX3_weighLanes_47 hl (by decide) rfl (fun ls hl => ?_)
    refine lv_iload hx hb dX3_weighLanes_49 (lv_at hl 0 rfl) ?_
    refine lv_iload hx hb dX3_weighLanes_51 (lv_at hl 0 rfl) ?_
    refine lv_ineg hx hb dX3_weighLanes_53 ?_
    refine lv_topi (fun x_17 ex_17 => ?_)
    refine lv_iand hx hb dX3_weighLanes_54 ?_
    refine lv_topi (fun x_18 ex_18 => ?_)
    have zrx_17 := z_rng x_17
    have zx_18 : 0 ≤ x_18.toInt ∧ x_18.toInt ≤ x_16.toInt := by rw [ex_18]; exact z_andL (by omega)
    refine lv_iconst (v := 1) hx hb dX3_weighLanes_55 (by decide) ?_
    refine lv_isub hx hb dX3_weighLanes_56 ?_
    refine lv_topi (fun x_19 ex_19 => ?_)
    have zx_19 : x_19.toInt = x_18.toInt - 1 := by rw [ex_19]; exact z_sub rfl rfl (by omega) (by omega)
    obtain ⟨hPc, hDc, hFc⟩ := sub3 hP hD hS hA (ws' := []) [] (by decide +kernel) rfl
    refine va_calli (va_runS (As := [.int x_19]) (rest := []) ⟨hx, hb, hml, hown, hts⟩ (c_J6_bitCount_0f7a4 l D k x_19 H.size) (va_cwS 1 hts (gS tw_5_158 tw_4_101 tw_1_20 tw_4_102) rfl rfl rfl hdS_J6_bitCount_0f7a4 ⟨Nat.le_of_ble_eq_true rfl, Nat.le_of_ble_eq_true rfl⟩) (cz_S hK hPc hDc hN [.int x_19]) rfl rfl hl.1 rfl (lv_room (Nat.le_of_ble_eq_true rfl)) dX3_weighLanes_57 ⟨Nat.le_of_ble_eq_true rfl, Nat.le_of_ble_eq_true rfl⟩) hS (fun q _ h => hFc q h) hFc (fun r_20 uZ tZ H1 locs ht hvm hw hB hz1 hk1 hS => ?_)
    obtain ⟨hP1, hK1, hD1⟩ := hB
    rw [ht] at hP1
    obtain ⟨hP, hD⟩ := va_join (wr := [(ob, .inr (3, [.ref oba, .ref ob_1])), (ob_1, .inl (k 2, 1000, .inr (.inl obg1))), (tn_6, .inl (k 0, 10, .inl tng6)), (oba, .inr (1, [.ref oba_0, .int o_5, .int o_6])), (oba_0, .inl (k 0, 8, .inl o_7)), (tn, .inr (10, [.int tnv0, .int tnv1, .int tnv2, .ref tn_3, .ref tn_4, .ref tn_5, .ref tn_6, .int tnv7, .int tnv8, .ref tn_9, .ref tn_10, .int tnv11, .ref tn_12, .ref tn_13, .ref tn_14, .ref tn_15, .int tnv16, .ref tn_17, .ref tn_18, .ref tnt])), (tn_3, .inl (k 0, 10, .inl tng3)), (tn_4, .inl (k 0, 10, .inl tng4)), (tn_5, .inl (k 0, 10, .inl tng5)), (tn_9, .inl (k 0, 4, .inl tng9)), (tn_10, .inl (k 0, 4, .inl tng10))]) (w1 := []) hP hD [] [0, 1, 2, 3, 4, 5, 6, 7, 8, 9, 10] rfl rfl (by decide +kernel) (by decide +kernel) hk1 hFc hP1 hD1
    clear hK1 hP1 hD1 hPc hDc hFc
    clear hk1 hz1 ht hvm
    have hP : va_P D vwCl [(ob, .inr (3, [.ref oba, .ref ob_1])), (ob_1, .inl (k 2, 1000, .inr (.inl obg1))), (tn_6, .inl (k 0, 10, .inl tng6)), (oba, .inr (1, [.ref oba_0, .int o_5, .int o_6])), (oba_0, .inl (k 0, 8, .inl o_7)), (tn, .inr (10, [.int tnv0, .int tnv1, .int tnv2, .ref tn_3, .ref tn_4, .ref tn_5, .ref tn_6, .int tnv7, .int tnv8, .ref tn_9, .ref tn_10, .int tnv11, .ref tn_12, .ref tn_13, .ref tn_14, .ref tn_15, .int tnv16, .ref tn_17, .ref tn_18, .ref tnt])), (tn_3, .inl (k 0, 10, .inl tng3)), (tn_4, .inl (k 0, 10, .inl tng4)), (tn_5, .inl (k 0, 10, .inl tng5)), (tn_9, .inl (k 0, 4, .inl tng9)), (tn_10, .inl (k 0, 4, .inl tng10))] H1 := hP
    have hD : va_D A [(ob, .inr (3, [.ref oba, .ref ob_1])), (ob_1, .inl (k 2, 1000, .inr (.inl obg1))), (tn_6, .inl (k 0, 10, .inl tng6)), (oba, .inr (1, [.ref oba_0, .int o_5, .int o_6])), (oba_0, .inl (k 0, 8, .inl o_7)), (tn, .inr (10, [.int tnv0, .int tnv1, .int tnv2, .ref tn_3, .ref tn_4, .ref tn_5, .ref tn_6, .int tnv7, .int tnv8, .ref tn_9, .ref tn_10, .int tnv11, .ref tn_12, .ref tn_13, .ref tn_14, .ref tn_15, .int tnv16, .ref tn_17, .ref tn_18, .ref tnt])), (tn_3, .inl (k 0, 10, .inl tng3)), (tn_4, .inl (k 0, 10, .inl tng4)), (tn_5, .inl (k 0, 10, .inl tng5)), (tn_9, .inl (k 0, 4, .inl tng9)), (tn_10, .inl (k 0, 4, .inl tng10))] := hD
    generalize H1 = H at hP hS ⊢
    have hw_21 : (0 ≤ r_20.toInt ∧ r_20.toInt ≤ 63) := hw
    have hw_22 := hw_21
    clear hw
    refine lv_istore (lv' := [(10, .int r_20), (9, .int x_16), (8, .int x_10), (0, .ref ob), (1, .ref tn), (2, .int p1), (3, .int p2), (4, .int p3), (5, .long p4), (7, .int 7)]) hx hb dX3_weighLanes_60 hl (by decide) rfl (fun ls hl => ?_)
    refine lv_iload hx hb dX3_weighLanes_62 (lv_at hl 1 rfl) ?_
    refine lv_if_eq (tgt := 81) hx hb dX3_weighLanes_64 (by decide) (fun h_23 => ?_) (fun h_23 => ?_)
    · skip
      have zh_23 : x_16.toInt = 0 := z_eq h_23
      refine lv_aload_n hx hb dX3_weighLanes_81 rfl (lv_at hl 3 rfl) ?_
      refine va_get (D := D) (ci := 3) (v := .ref ob_1) (C := RX3) (T := TX3) (N := 2) hx hb hts iT_X3 hown hK hP 0 rfl rfl 1 (by decide) (hts _ tw_2_164) (fun _ h9 => h9) rfl dX3_weighLanes_82 ?_
      refine lv_iload hx hb dX3_weighLanes_85 (lv_at hl 2 rfl) ?_
      refine lv_dup2_11 hx hb dX3_weighLanes_87 rfl rfl ?_
      refine va_lald hx hb hK hP 1 2 rfl rfl (z_in (by omega) (by omega)) dX3_weighLanes_88 ?_
      refine lv_topl (fun x_24 ex_24 => ?_)
      refine lv_lload hx hb dX3_weighLanes_89 (lv_at hl 8 rfl) ?_
      refine lv_ladd hx hb dX3_weighLanes_91 ?_
      refine lv_topl (fun x_25 ex_25 => ?_)
      refine va_last hx hb hK hP hD hS 1 2 rfl rfl (z_in (by omega) (by omega)) dX3_weighLanes_92 (fun H locs hP hD hS => ?_)
      obtain ⟨g_26, eg_26⟩ : ∃ z : Nat → Int64, vp_updL obg1 x_10.toNatClampNeg x_25 = z := ⟨_, rfl⟩
      have hP : va_P D vwCl [(ob, .inr (3, [.ref oba, .ref ob_1])), (ob_1, .inl (k 2, 1000, .inr (.inl (vp_updL obg1 x_10.toNatClampNeg x_25)))), (tn_6, .inl (k 0, 10, .inl tng6)), (oba, .inr (1, [.ref oba_0, .int o_5, .int o_6])), (oba_0, .inl (k 0, 8, .inl o_7)), (tn, .inr (10, [.int tnv0, .int tnv1, .int tnv2, .ref tn_3, .ref tn_4, .ref tn_5, .ref tn_6, .int tnv7, .int tnv8, .ref tn_9, .ref tn_10, .int tnv11, .ref tn_12, .ref tn_13, .ref tn_14, .ref tn_15, .int tnv16, .ref tn_17, .ref tn_18, .ref tnt])), (tn_3, .inl (k 0, 10, .inl tng3)), (tn_4, .inl (k 0, 10, .inl tng4)), (tn_5, .inl (k 0, 10, .inl tng5)), (tn_9, .inl (k 0, 4, .inl tng9)), (tn_10, .inl (k 0, 4, .inl tng10))] H := hP
      have hD : va_D A [(ob, .inr (3, [.ref oba, .ref ob_1])), (ob_1, .inl (k 2, 1000, .inr (.inl (vp_updL obg1 x_10.toNatClampNeg x_25)))), (tn_6, .inl (k 0, 10, .inl tng6)), (oba, .inr (1, [.ref oba_0, .int o_5, .int o_6])), (oba_0, .inl (k 0, 8, .inl o_7)), (tn, .inr (10, [.int tnv0, .int tnv1, .int tnv2, .ref tn_3, .ref tn_4, .ref tn_5, .ref tn_6, .int tnv7, .int tnv8, .ref tn_9, .ref tn_10, .int tnv11, .ref tn_12, .ref tn_13, .ref tn_14, .ref tn_15, .int tnv16, .ref tn_17, .ref tn_18, .ref tnt])), (tn_3, .inl (k 0, 10, .inl tng3)), (tn_4, .inl (k 0, 10, .inl tng4)), (tn_5, .inl (k 0, 10, .inl tng5)), (tn_9, .inl (k 0, 4, .inl tng9)), (tn_10, .inl (k 0, 4, .inl tng10))] := hD
      rw [eg_26] at hP hD
      obtain ⟨hP9, hD9⟩ := sub2 hP hD (ws' := [(ob, .inr (3, [.ref oba, .ref ob_1])), (oba, .inr (1, [.ref oba_0, .int o_5, .int o_6])), (oba_0, .inl (k 0, 8, .inl o_7)), (ob_1, .inl (k 2, 1000, .inr (.inl g_26))), (tn, .inr (10, [.int tnv0, .int tnv1, .int tnv2, .ref tn_3, .ref tn_4, .ref tn_5, .ref tn_6, .int tnv7, .int tnv8, .ref tn_9, .ref tn_10, .int tnv11, .ref tn_12, .ref tn_13, .ref tn_14, .ref tn_15, .int tnv16, .ref tn_17, .ref tn_18, .ref tnt])), (tn_3, .inl (k 0, 10, .inl tng3)), (tn_4, .inl (k 0, 10, .inl tng4)), (tn_5, .inl (k 0, 10, .inl tng5)), (tn_6, .inl (k 0, 10, .inl tng6)), (tn_9, .inl (k 0, 4, .inl tng9)), (tn_10, .inl (k 0, 4, .inl tng10))]) [0, 3, 4, 1, 5, 6, 7, 8, 2, 9, 10] (by decide +kernel) rfl
      exact W.vret hx hb hr (fun tZ ht hW => ⟨⟨(o_5, o_6, o_7, g_26), rfl, hw_9, by rw [ht]; exact hP9, va_K.moved hW.alike hK, hD9⟩, hS.F ht⟩) hS.2.2 dX3_weighLanes_93
    · skip
      have zh_23 : ¬ x_16.toInt = 0 := z_ne h_23
      refine lv_iload hx hb dX3_weighLanes_67 (lv_at hl 0 rfl) ?_
      refine lv_bipush (v := 10) hx hb dX3_weighLanes_69 (by decide) ?_
      refine lv_icmp_ge (tgt := 81) hx hb dX3_weighLanes_71 (by decide) (fun h_27 => ?_) (fun h_27 => ?_)
      · skip
        have zh_27 : 10 ≤ r_20.toInt := z_le h_27
        refine lv_aload_n hx hb dX3_weighLanes_81 rfl (lv_at hl 3 rfl) ?_
        refine va_get (D := D) (ci := 3) (v := .ref ob_1) (C := RX3) (T := TX3) (N := 2) hx hb hts iT_X3 hown hK hP 0 rfl rfl 1 (by decide) (hts _ tw_2_164) (fun _ h9 => h9) rfl dX3_weighLanes_82 ?_
        refine lv_iload hx hb dX3_weighLanes_85 (lv_at hl 2 rfl) ?_
        refine lv_dup2_11 hx hb dX3_weighLanes_87 rfl rfl ?_
        refine va_lald hx hb hK hP 1 2 rfl rfl (z_in (by omega) (by omega)) dX3_weighLanes_88 ?_
        refine lv_topl (fun x_28 ex_28 => ?_)
        refine lv_lload hx hb dX3_weighLanes_89 (lv_at hl 8 rfl) ?_
        refine lv_ladd hx hb dX3_weighLanes_91 ?_
        refine lv_topl (fun x_29 ex_29 => ?_)
        refine va_last hx hb hK hP hD hS 1 2 rfl rfl (z_in (by omega) (by omega)) dX3_weighLanes_92 (fun H locs hP hD hS => ?_)
        obtain ⟨g_30, eg_30⟩ : ∃ z : Nat → Int64, vp_updL obg1 x_10.toNatClampNeg x_29 = z := ⟨_, rfl⟩
        have hP : va_P D vwCl [(ob, .inr (3, [.ref oba, .ref ob_1])), (ob_1, .inl (k 2, 1000, .inr (.inl (vp_updL obg1 x_10.toNatClampNeg x_29)))), (tn_6, .inl (k 0, 10, .inl tng6)), (oba, .inr (1, [.ref oba_0, .int o_5, .int o_6])), (oba_0, .inl (k 0, 8, .inl o_7)), (tn, .inr (10, [.int tnv0, .int tnv1, .int tnv2, .ref tn_3, .ref tn_4, .ref tn_5, .ref tn_6, .int tnv7, .int tnv8, .ref tn_9, .ref tn_10, .int tnv11, .ref tn_12, .ref tn_13, .ref tn_14, .ref tn_15, .int tnv16, .ref tn_17, .ref tn_18, .ref tnt])), (tn_3, .inl (k 0, 10, .inl tng3)), (tn_4, .inl (k 0, 10, .inl tng4)), (tn_5, .inl (k 0, 10, .inl tng5)), (tn_9, .inl (k 0, 4, .inl tng9)), (tn_10, .inl (k 0, 4, .inl tng10))] H := hP
        have hD : va_D A [(ob, .inr (3, [.ref oba, .ref ob_1])), (ob_1, .inl (k 2, 1000, .inr (.inl (vp_updL obg1 x_10.toNatClampNeg x_29)))), (tn_6, .inl (k 0, 10, .inl tng6)), (oba, .inr (1, [.ref oba_0, .int o_5, .int o_6])), (oba_0, .inl (k 0, 8, .inl o_7)), (tn, .inr (10, [.int tnv0, .int tnv1, .int tnv2, .ref tn_3, .ref tn_4, .ref tn_5, .ref tn_6, .int tnv7, .int tnv8, .ref tn_9, .ref tn_10, .int tnv11, .ref tn_12, .ref tn_13, .ref tn_14, .ref tn_15, .int tnv16, .ref tn_17, .ref tn_18, .ref tnt])), (tn_3, .inl (k 0, 10, .inl tng3)), (tn_4, .inl (k 0, 10, .inl tng4)), (tn_5, .inl (k 0, 10, .inl tng5)), (tn_9, .inl (k 0, 4, .inl tng9)), (tn_10, .inl (k 0, 4, .inl tng10))] := hD
        rw [eg_30] at hP hD
        obtain ⟨hP9, hD9⟩ := sub2 hP hD (ws' := [(ob, .inr (3, [.ref oba, .ref ob_1])), (oba, .inr (1, [.ref oba_0, .int o_5, .int o_6])), (oba_0, .inl (k 0, 8, .inl o_7)), (ob_1, .inl (k 2, 1000, .inr (.inl g_30))), (tn, .inr (10, [.int tnv0, .int tnv1, .int tnv2, .ref tn_3, .ref tn_4, .ref tn_5, .ref tn_6, .int tnv7, .int tnv8, .ref tn_9, .ref tn_10, .int tnv11, .ref tn_12, .ref tn_13, .ref tn_14, .ref tn_15, .int tnv16, .ref tn_17, .ref tn_18, .ref tnt])), (tn_3, .inl (k 0, 10, .inl tng3)), (tn_4, .inl (k 0, 10, .inl tng4)), (tn_5, .inl (k 0, 10, .inl tng5)), (tn_6, .inl (k 0, 10, .inl tng6)), (tn_9, .inl (k 0, 4, .inl tng9)), (tn_10, .inl (k 0, 4, .inl tng10))]) [0, 3, 4, 1, 5, 6, 7, 8, 2, 9, 10] (by decide +kernel) rfl
        exact W.vret hx hb hr (fun tZ ht hW => ⟨⟨(o_5, o_6, o_7, g_30), rfl, hw_9, by rw [ht]; exact hP9, va_K.moved hW.alike hK, hD9⟩, hS.F ht⟩) hS.2.2 dX3_weighLanes_93
      · skip
        have zh_27 : r_20.toInt < 10 := z_nle h_27
        refine lv_iload hx hb dX3_weighLanes_74 (lv_at hl 9 rfl) ?_
        refine lv_bipush (v := 10) hx hb dX3_weighLanes_76 (by decide) ?_
        refine lv_icmp_lt (tgt := 94) hx hb dX3_weighLanes_78 (by decide) (fun _ => ?_) (fun c9 => absurd c9 (by decide))
        refine lv_iconst (v := 1) hx hb dX3_weighLanes_94 (by decide) ?_
        refine lv_iload hx hb dX3_weighLanes_95 (lv_at hl 0 rfl) ?_
        refine lv_ishl hx hb dX3_weighLanes_97 ?_
        refine lv_topi (fun x_31 ex_31 => ?_)
        have zx_31 : 1 ≤ x_31.toInt ∧ x_31.toInt ≤ 512 := by rw [ex_31]; exact z_shl1 9 512 rfl (by decide) (by omega) (by omega)
        refine lv_istore (lv' := [(11, .int x_31), (10, .int r_20), (9, .int x_16), (8, .int x_10), (0, .ref ob), (1, .ref tn), (2, .int p1), (3, .int p2), (4, .int p3), (5, .long p4), (7, .int 7)]) hx hb dX3_weighLanes_98 hl (by decide) rfl (fun ls hl => ?_)
        refine lv_lload hx hb dX3_weighLanes_100 (lv_at hl 9 rfl) ?_
        refine lv_ldc2 (v := 10) hx hb hown (hts _ tw_5_159) dX3_weighLanes_102 ?_
        refine lv_ldiv hx hb dX3_weighLanes_105 (by decide) ?_
        refine lv_topl (fun x_32 ex_32 => ?_)
        refine lv_lstore (lv' := [(12, .long x_32), (11, .int x_31), (10, .int r_20), (9, .int x_16), (8, .int x_10), (0, .ref ob), (1, .ref tn), (2, .int p1), (3, .int p2), (4, .int p3), (5, .long p4), (7, .int 7)]) hx hb dX3_weighLanes_106 hl (by decide) rfl (fun ls hl => ?_)
        refine lv_aload_n hx hb dX3_weighLanes_108 rfl (lv_at hl 5 rfl) ?_
        refine lv_aload_n hx hb dX3_weighLanes_109 rfl (lv_at hl 6 rfl) ?_
        refine lv_iload_n hx hb dX3_weighLanes_110 rfl (lv_at hl 7 rfl) ?_
        refine lv_iload_n hx hb dX3_weighLanes_111 rfl (lv_at hl 8 rfl) ?_
        refine lv_iload hx hb dX3_weighLanes_112 (lv_at hl 1 rfl) ?_
        refine lv_ior hx hb dX3_weighLanes_114 ?_
        refine lv_topi (fun x_33 ex_33 => ?_)
        refine lv_iload hx hb dX3_weighLanes_115 (lv_at hl 9 rfl) ?_
        refine lv_lload hx hb dX3_weighLanes_117 (lv_at hl 0 rfl) ?_
        refine lv_bipush (v := 10) hx hb dX3_weighLanes_119 (by decide) ?_
        refine lv_aload_n hx hb dX3_weighLanes_121 rfl (lv_at hl 6 rfl) ?_
        refine va_get (D := D) (ci := 10) (v := .ref tn_6) (C := RX10) (T := TX10) (N := 20) hx hb hts iT_X10 hown hK hP 5 rfl rfl 6 (by decide) (hts _ tw_1_98) (fun _ h9 => h9) rfl dX3_weighLanes_122 ?_
        refine lv_iload hx hb dX3_weighLanes_125 (lv_at hl 2 rfl) ?_
        refine va_iald hx hb hK hP 2 0 rfl rfl (z_in (by omega) (by omega)) dX3_weighLanes_127 ?_
        refine lv_topi (fun x_34 ex_34 => ?_)
        have zx_34r0 : 0 ≤ x_34.toInt ∧ x_34.toInt ≤ 10 := by rw [ex_34]; exact PR.ld hp_tng6_0 (by omega) (by omega) (by omega)
        refine lv_isub hx hb dX3_weighLanes_128 ?_
        refine lv_topi (fun x_35 ex_35 => ?_)
        have zx_35 : x_35.toInt = 10 - x_34.toInt := by rw [ex_35]; exact z_sub rfl rfl (by omega) (by omega)
        refine lv_i2l (v := x_35.toInt64) hx hb dX3_weighLanes_129 rfl ?_
        refine lv_lmul hx hb dX3_weighLanes_130 ?_
        refine lv_topl (fun x_36 ex_36 => ?_)
        refine lv_iload hx hb dX3_weighLanes_131 (lv_at hl 11 rfl) ?_
        refine lv_iconst (v := 1) hx hb dX3_weighLanes_133 (by decide) ?_
        refine lv_iadd hx hb dX3_weighLanes_134 ?_
        refine lv_topi (fun x_37 ex_37 => ?_)
        obtain rfl : x_37 = 8 := ex_37.trans (by decide)
        obtain ⟨hPc, hDc, hFc⟩ := sub3 hP hD hS hA (ws' := [(ob, .inr (3, [.ref oba, .ref ob_1])), (oba, .inr (1, [.ref oba_0, .int o_5, .int o_6])), (oba_0, .inl (k 0, 8, .inl o_7)), (ob_1, .inl (k 2, 1000, .inr (.inl obg1))), (tn, .inr (10, [.int tnv0, .int tnv1, .int tnv2, .ref tn_3, .ref tn_4, .ref tn_5, .ref tn_6, .int tnv7, .int tnv8, .ref tn_9, .ref tn_10, .int tnv11, .ref tn_12, .ref tn_13, .ref tn_14, .ref tn_15, .int tnv16, .ref tn_17, .ref tn_18, .ref tnt])), (tn_3, .inl (k 0, 10, .inl tng3)), (tn_4, .inl (k 0, 10, .inl tng4)), (tn_5, .inl (k 0, 10, .inl tng5)), (tn_6, .inl (k 0, 10, .inl tng6)), (tn_9, .inl (k 0, 4, .inl tng9)), (tn_10, .inl (k 0, 4, .inl tng10))]) [0, 3, 4, 1, 5, 6, 7, 8, 2, 9, 10] (by decide +kernel) rfl
        refine va_callv (va_runV (C := RX3) (As := [.ref tn, .int p1, .int x_33, .int p3, .long x_36, .int 8]) (rest := []) ⟨hx, hb, hml, hown, hts⟩ (c_X3_weighLanes_2 l D k ob tn p1 x_33 p3 x_36 oba ob_1 oba_0 o_5 o_6 o_7 obg1 tnv0 tnv1 tnv2 tn_3 tn_4 tn_5 tn_6 tnv7 tnv8 tn_9 tn_10 tnv11 tn_12 tn_13 tn_14 tn_15 tnv16 tn_17 tn_18 tnt tng3 tng4 tng5 tng6 tng9 tng10 H.size (show 0 ≤ p1.toInt ∧ p1.toInt ≤ 7 from by omega) hw_9 (show 0 ≤ tnv0.toInt ∧ tnv0.toInt ≤ 8 from by omega) (show 0 ≤ tnv2.toInt ∧ tnv2.toInt ≤ 10 from by omega) (show 0 ≤ tnv8.toInt ∧ tnv8.toInt ≤ 4 from by omega) (show 0 ≤ tnv11.toInt ∧ tnv11.toInt ≤ 6 from by omega) (show 0 ≤ tnv16.toInt ∧ tnv16.toInt ≤ 2 from by omega) hp_tng3_0 hp_tng4_0 hp_tng5_0 hp_tng6_0 hp_tng9_0 hp_tng10_0) (cwV 6 hts (gV tw_5_151 tw_5_153 tw_p_34 tw_1_12 tw_5_154) rfl rfl rfl hdV_X3_weighLanes ⟨Nat.le_of_ble_eq_true rfl, Nat.le_of_ble_eq_true rfl⟩) (cz_V hK hPc hDc hN (ci := 3) (q0 := 0) rfl rfl [.ref tn, .int p1, .int x_33, .int p3, .long x_36, .int 8]) rfl rfl hl.1 rfl (lv_room (Nat.le_of_ble_eq_true rfl)) dX3_weighLanes_135 ⟨Nat.le_of_ble_eq_true rfl, Nat.le_of_ble_eq_true rfl⟩) hS (fun q _ h => hFc q h) hFc (fun uZ tZ H1 locs ht hvm hw hB hz1 hk1 hS => ?_)
        obtain ⟨o_39, o_40, o_41, o_42⟩ := uZ
        obtain ⟨hP1, hK1, hD1⟩ := hB
        rw [ht] at hP1
        obtain ⟨hP, hD⟩ := va_join (wr := []) (w1 := [(ob, .inr (3, [.ref oba, .ref ob_1])), (oba, .inr (1, [.ref oba_0, .int o_39, .int o_40])), (oba_0, .inl (k 0, 8, .inl o_41)), (ob_1, .inl (k 2, 1000, .inr (.inl o_42))), (tn, .inr (10, [.int tnv0, .int tnv1, .int tnv2, .ref tn_3, .ref tn_4, .ref tn_5, .ref tn_6, .int tnv7, .int tnv8, .ref tn_9, .ref tn_10, .int tnv11, .ref tn_12, .ref tn_13, .ref tn_14, .ref tn_15, .int tnv16, .ref tn_17, .ref tn_18, .ref tnt])), (tn_3, .inl (k 0, 10, .inl tng3)), (tn_4, .inl (k 0, 10, .inl tng4)), (tn_5, .inl (k 0, 10, .inl tng5)), (tn_6, .inl (k 0, 10, .inl tng6)), (tn_9, .inl (k 0, 4, .inl tng9)), (tn_10, .inl (k 0, 4, .inl tng10))]) hP hD [0, 3, 4, 1, 5, 6, 7, 8, 2, 9, 10] [] rfl rfl (by decide +kernel) (by decide +kernel) hk1 hFc hP1 hD1
        clear hK1 hP1 hD1 hPc hDc hFc
        clear hk1 hz1 ht hvm
        have hP : va_P D vwCl [(ob, .inr (3, [.ref oba, .ref ob_1])), (oba, .inr (1, [.ref oba_0, .int o_39, .int o_40])), (oba_0, .inl (k 0, 8, .inl o_41)), (ob_1, .inl (k 2, 1000, .inr (.inl o_42))), (tn, .inr (10, [.int tnv0, .int tnv1, .int tnv2, .ref tn_3, .ref tn_4, .ref tn_5, .ref tn_6, .int tnv7, .int tnv8, .ref tn_9, .ref tn_10, .int tnv11, .ref tn_12, .ref tn_13, .ref tn_14, .ref tn_15, .int tnv16, .ref tn_17, .ref tn_18, .ref tnt])), (tn_3, .inl (k 0, 10, .inl tng3)), (tn_4, .inl (k 0, 10, .inl tng4)), (tn_5, .inl (k 0, 10, .inl tng5)), (tn_6, .inl (k 0, 10, .inl tng6)), (tn_9, .inl (k 0, 4, .inl tng9)), (tn_10, .inl (k 0, 4, .inl tng10))] H1 := hP
        have hD : va_D A [(ob, .inr (3, [.ref oba, .ref ob_1])), (oba, .inr (1, [.ref oba_0, .int o_39, .int o_40])), (oba_0, .inl (k 0, 8, .inl o_41)), (ob_1, .inl (k 2, 1000, .inr (.inl o_42))), (tn, .inr (10, [.int tnv0, .int tnv1, .int tnv2, .ref tn_3, .ref tn_4, .ref tn_5, .ref tn_6, .int tnv7, .int tnv8, .ref tn_9, .ref tn_10, .int tnv11, .ref tn_12, .ref tn_13, .ref tn_14, .ref tn_15, .int tnv16, .ref tn_17, .ref tn_18, .ref tnt])), (tn_3, .inl (k 0, 10, .inl tng3)), (tn_4, .inl (k 0, 10, .inl tng4)), (tn_5, .inl (k 0, 10, .inl tng5)), (tn_6, .inl (k 0, 10, .inl tng6)), (tn_9, .inl (k 0, 4, .inl tng9)), (tn_10, .inl (k 0, 4, .inl tng10))] := hD
        generalize H1 = H at hP hS ⊢
        have hw_43 : (PR 8 1 0 0 1000000 o_41) := hw
        have hw_44 := hw_43
        clear hw
        refine lv_aload_n hx hb dX3_weighLanes_138 rfl (lv_at hl 5 rfl) ?_
        refine lv_aload_n hx hb dX3_weighLanes_139 rfl (lv_at hl 6 rfl) ?_
        refine lv_iload_n hx hb dX3_weighLanes_140 rfl (lv_at hl 7 rfl) ?_
        refine lv_iload_n hx hb dX3_weighLanes_141 rfl (lv_at hl 8 rfl) ?_
        refine lv_iload hx hb dX3_weighLanes_142 (lv_at hl 1 rfl) ?_
        refine lv_ior hx hb dX3_weighLanes_144 ?_
        refine lv_topi (fun x_45 ex_45 => ?_)
        obtain rfl : x_33 = x_45 := ex_33.trans ex_45.symm
        refine lv_iload hx hb dX3_weighLanes_145 (lv_at hl 9 rfl) ?_
        refine lv_iload hx hb dX3_weighLanes_147 (lv_at hl 1 rfl) ?_
        refine lv_ior hx hb dX3_weighLanes_149 ?_
        refine lv_topi (fun x_46 ex_46 => ?_)
        have zrp3 := z_rng p3
        refine lv_lload hx hb dX3_weighLanes_150 (lv_at hl 0 rfl) ?_
        refine lv_aload_n hx hb dX3_weighLanes_152 rfl (lv_at hl 6 rfl) ?_
        refine va_get (D := D) (ci := 10) (v := .ref tn_6) (C := RX10) (T := TX10) (N := 20) hx hb hts iT_X10 hown hK hP 4 rfl rfl 6 (by decide) (hts _ tw_1_98) (fun _ h9 => h9) rfl dX3_weighLanes_153 ?_
        refine lv_iload hx hb dX3_weighLanes_156 (lv_at hl 2 rfl) ?_
        refine va_iald hx hb hK hP 8 0 rfl rfl (z_in (by omega) (by omega)) dX3_weighLanes_158 ?_
        refine lv_topi (fun x_47 ex_47 => ?_)
        obtain rfl : x_34 = x_47 := ex_34.trans ex_47.symm
        refine lv_i2l (v := x_34.toInt64) hx hb dX3_weighLanes_159 rfl ?_
        refine lv_lmul hx hb dX3_weighLanes_160 ?_
        refine lv_topl (fun x_48 ex_48 => ?_)
        refine lv_iload hx hb dX3_weighLanes_161 (lv_at hl 11 rfl) ?_
        refine lv_iconst (v := 1) hx hb dX3_weighLanes_163 (by decide) ?_
        refine lv_iadd hx hb dX3_weighLanes_164 ?_
        refine lv_topi (fun x_49 ex_49 => ?_)
        obtain rfl : x_49 = 8 := ex_49.trans (by decide)
        obtain ⟨hPc, hDc, hFc⟩ := sub3 hP hD hS hA (ws' := [(ob, .inr (3, [.ref oba, .ref ob_1])), (oba, .inr (1, [.ref oba_0, .int o_39, .int o_40])), (oba_0, .inl (k 0, 8, .inl o_41)), (ob_1, .inl (k 2, 1000, .inr (.inl o_42))), (tn, .inr (10, [.int tnv0, .int tnv1, .int tnv2, .ref tn_3, .ref tn_4, .ref tn_5, .ref tn_6, .int tnv7, .int tnv8, .ref tn_9, .ref tn_10, .int tnv11, .ref tn_12, .ref tn_13, .ref tn_14, .ref tn_15, .int tnv16, .ref tn_17, .ref tn_18, .ref tnt])), (tn_3, .inl (k 0, 10, .inl tng3)), (tn_4, .inl (k 0, 10, .inl tng4)), (tn_5, .inl (k 0, 10, .inl tng5)), (tn_6, .inl (k 0, 10, .inl tng6)), (tn_9, .inl (k 0, 4, .inl tng9)), (tn_10, .inl (k 0, 4, .inl tng10))]) [0, 1, 2, 3, 4, 5, 6, 7, 8, 9, 10] (by decide +kernel) rfl
        refine va_callv (va_runV (C := RX3) (As := [.ref tn, .int p1, .int x_33, .int x_46, .long x_48, .int 8]) (rest := []) ⟨hx, hb, hml, hown, hts⟩ (c_X3_weighLanes_2 l D k ob tn p1 x_33 x_46 x_48 oba ob_1 oba_0 o_39 o_40 o_41 o_42 tnv0 tnv1 tnv2 tn_3 tn_4 tn_5 tn_6 tnv7 tnv8 tn_9 tn_10 tnv11 tn_12 tn_13 tn_14 tn_15 tnv16 tn_17 tn_18 tnt tng3 tng4 tng5 tng6 tng9 tng10 H.size (show 0 ≤ p1.toInt ∧ p1.toInt ≤ 7 from by omega) hw_44 (show 0 ≤ tnv0.toInt ∧ tnv0.toInt ≤ 8 from by omega) (show 0 ≤ tnv2.toInt ∧ tnv2.toInt ≤ 10 from by omega) (show 0 ≤ tnv8.toInt ∧ tnv8.toInt ≤ 4 from by omega) (show 0 ≤ tnv11.toInt ∧ tnv11.toInt ≤ 6 from by omega) (show 0 ≤ tnv16.toInt ∧ tnv16.toInt ≤ 2 from by omega) hp_tng3_0 hp_tng4_0 hp_tng5_0 hp_tng6_0 hp_tng9_0 hp_tng10_0) (cwV 6 hts (gV tw_5_151 tw_5_153 tw_p_34 tw_1_12 tw_5_154) rfl rfl rfl hdV_X3_weighLanes ⟨Nat.le_of_ble_eq_true rfl, Nat.le_of_ble_eq_true rfl⟩) (cz_V hK hPc hDc hN (ci := 3) (q0 := 0) rfl rfl [.ref tn, .int p1, .int x_33, .int x_46, .long x_48, .int 8]) rfl rfl hl.1 rfl (lv_room (Nat.le_of_ble_eq_true rfl)) dX3_weighLanes_165 ⟨Nat.le_of_ble_eq_true rfl, Nat.le_of_ble_eq_true rfl⟩) hS (fun q _ h => hFc q h) hFc (fun uZ tZ H1 locs ht hvm hw hB hz1 hk1 hS => ?_)
        obtain ⟨o_51, o_52, o_53, o_54⟩ := uZ
        obtain ⟨hP1, hK1, hD1⟩ := hB
        rw [ht] at hP1
        obtain ⟨hP, hD⟩ := va_join (wr := []) (w1 := [(ob, .inr (3, [.ref oba, .ref ob_1])), (oba, .inr (1, [.ref oba_0, .int o_51, .int o_52])), (oba_0, .inl (k 0, 8, .inl o_53)), (ob_1, .inl (k 2, 1000, .inr (.inl o_54))), (tn, .inr (10, [.int tnv0, .int tnv1, .int tnv2, .ref tn_3, .ref tn_4, .ref tn_5, .ref tn_6, .int tnv7, .int tnv8, .ref tn_9, .ref tn_10, .int tnv11, .ref tn_12, .ref tn_13, .ref tn_14, .ref tn_15, .int tnv16, .ref tn_17, .ref tn_18, .ref tnt])), (tn_3, .inl (k 0, 10, .inl tng3)), (tn_4, .inl (k 0, 10, .inl tng4)), (tn_5, .inl (k 0, 10, .inl tng5)), (tn_6, .inl (k 0, 10, .inl tng6)), (tn_9, .inl (k 0, 4, .inl tng9)), (tn_10, .inl (k 0, 4, .inl tng10))]) hP hD [0, 1, 2, 3, 4, 5, 6, 7, 8, 9, 10] [] rfl rfl (by decide +kernel) (by decide +kernel) hk1 hFc hP1 hD1
        clear hK1 hP1 hD1 hPc hDc hFc
        clear hk1 hz1 ht hvm
        have hP : va_P D vwCl [(ob, .inr (3, [.ref oba, .ref ob_1])), (oba, .inr (1, [.ref oba_0, .int o_51, .int o_52])), (oba_0, .inl (k 0, 8, .inl o_53)), (ob_1, .inl (k 2, 1000, .inr (.inl o_54))), (tn, .inr (10, [.int tnv0, .int tnv1, .int tnv2, .ref tn_3, .ref tn_4, .ref tn_5, .ref tn_6, .int tnv7, .int tnv8, .ref tn_9, .ref tn_10, .int tnv11, .ref tn_12, .ref tn_13, .ref tn_14, .ref tn_15, .int tnv16, .ref tn_17, .ref tn_18, .ref tnt])), (tn_3, .inl (k 0, 10, .inl tng3)), (tn_4, .inl (k 0, 10, .inl tng4)), (tn_5, .inl (k 0, 10, .inl tng5)), (tn_6, .inl (k 0, 10, .inl tng6)), (tn_9, .inl (k 0, 4, .inl tng9)), (tn_10, .inl (k 0, 4, .inl tng10))] H1 := hP
        have hD : va_D A [(ob, .inr (3, [.ref oba, .ref ob_1])), (oba, .inr (1, [.ref oba_0, .int o_51, .int o_52])), (oba_0, .inl (k 0, 8, .inl o_53)), (ob_1, .inl (k 2, 1000, .inr (.inl o_54))), (tn, .inr (10, [.int tnv0, .int tnv1, .int tnv2, .ref tn_3, .ref tn_4, .ref tn_5, .ref tn_6, .int tnv7, .int tnv8, .ref tn_9, .ref tn_10, .int tnv11, .ref tn_12, .ref tn_13, .ref tn_14, .ref tn_15, .int tnv16, .ref tn_17, .ref tn_18, .ref tnt])), (tn_3, .inl (k 0, 10, .inl tng3)), (tn_4, .inl (k 0, 10, .inl tng4)), (tn_5, .inl (k 0, 10, .inl tng5)), (tn_6, .inl (k 0, 10, .inl tng6)), (tn_9, .inl (k 0, 4, .inl tng9)), (tn_10, .inl (k 0, 4, .inl tng10))] := hD
        generalize H1 = H at hP hS ⊢
        have hw_55 : (PR 8 1 0 0 1000000 o_53) := hw
        have hw_56 := hw_55
        clear hw
        obtain ⟨hP9, hD9⟩ := sub2 hP hD (ws' := [(ob, .inr (3, [.ref oba, .ref ob_1])), (oba, .inr (1, [.ref oba_0, .int o_51, .int o_52])), (oba_0, .inl (k 0, 8, .inl o_53)), (ob_1, .inl (k 2, 1000, .inr (.inl o_54))), (tn, .inr (10, [.int tnv0, .int tnv1, .int tnv2, .ref tn_3, .ref tn_4, .ref tn_5, .ref tn_6, .int tnv7, .int tnv8, .ref tn_9, .ref tn_10, .int tnv11, .ref tn_12, .ref tn_13, .ref tn_14, .ref tn_15, .int tnv16, .ref tn_17, .ref tn_18, .ref tnt])), (tn_3, .inl (k 0, 10, .inl tng3)), (tn_4, .inl (k 0, 10, .inl tng4)), (tn_5, .inl (k 0, 10, .inl tng5)), (tn_6, .inl (k 0, 10, .inl tng6)), (tn_9, .inl (k 0, 4, .inl tng9)), (tn_10, .inl (k 0, 4, .inl tng10))]) [0, 1, 2, 3, 4, 5, 6, 7, 8, 9, 10] (by decide +kernel) rfl
        exact W.vret hx hb hr (fun tZ ht hW => ⟨⟨(o_51, o_52, o_53, o_54), rfl, hw_56, by rw [ht]; exact hP9, va_K.moved hW.alike hK, hD9⟩, hS.F ht⟩) hS.2.2 dX3_weighLanes_168
  · skip
    have zh_11 : 1000 ≤ x_10.toInt := z_nlt h_11
    obtain ⟨hP9, hD9⟩ := sub2 hP hD (ws' := [(ob, .inr (3, [.ref oba, .ref ob_1])), (oba, .inr (1, [.ref oba_0, .int o_5, .int o_6])), (oba_0, .inl (k 0, 8, .inl o_7)), (ob_1, .inl (k 2, 1000, .inr (.inl obg1))), (tn, .inr (10, [.int tnv0, .int tnv1, .int tnv2, .ref tn_3, .ref tn_4, .ref tn_5, .ref tn_6, .int tnv7, .int tnv8, .ref tn_9, .ref tn_10, .int tnv11, .ref tn_12, .ref tn_13, .ref tn_14, .ref tn_15, .int tnv16, .ref tn_17, .ref tn_18, .ref tnt])), (tn_3, .inl (k 0, 10, .inl tng3)), (tn_4, .inl (k 0, 10, .inl tng4)), (tn_5, .inl (k 0, 10, .inl tng5)), (tn_6, .inl (k 0, 10, .inl tng6)), (tn_9, .inl (k 0, 4, .inl tng9)), (tn_10, .inl (k 0, 4, .inl tng10))]) [0, 3, 4, 1, 5, 6, 7, 8, 2, 9, 10] (by decide +kernel) rfl
    exact W.vret hx hb hr (fun tZ ht hW => ⟨⟨(o_5, o_6, o_7, obg1), rfl, hw_9, by rw [ht]; exact hP9, va_K.moved hW.alike hK, hD9⟩, hS.F ht⟩) hS.2.2 dX3_weighLanes_33
set_option maxHeartbeats 4000000 in
set_option maxRecDepth 100000 in
theorem c_X3_weighLanes_4 (l : Launch) (D : va_G) (k : Nat → ClassId) (ob : Nat) (tn : Nat) (p1 : Int32) (p2 : Int32) (p3 : Int32) (p4 : Int64) (oba : Nat) (ob_1 : Nat) (oba_0 : Nat) (obav1 : Int32) (obav2 : Int32) (obag0 : Nat → Int32) (obg1 : Nat → Int64) (tnv0 : Int32) (tnv1 : Int32) (tnv2 : Int32) (tn_3 : Nat) (tn_4 : Nat) (tn_5 : Nat) (tn_6 : Nat) (tnv7 : Int32) (tnv8 : Int32) (tn_9 : Nat) (tn_10 : Nat) (tnv11 : Int32) (tn_12 : Nat) (tn_13 : Nat) (tn_14 : Nat) (tn_15 : Nat) (tnv16 : Int32) (tn_17 : Nat) (tn_18 : Nat) (tnt : Nat) (tng3 : Nat → Int32) (tng4 : Nat → Int32) (tng5 : Nat → Int32) (tng6 : Nat → Int32) (tng9 : Nat → Int32) (tng10 : Nat → Int32) (sz : Nat) (h_p1 : 0 ≤ p1.toInt ∧ p1.toInt ≤ 7) (hp_obag0_0 : PR 8 1 0 0 1000000 obag0) (h_tnv0 : 0 ≤ tnv0.toInt ∧ tnv0.toInt ≤ 8) (h_tnv2 : 0 ≤ tnv2.toInt ∧ tnv2.toInt ≤ 10) (h_tnv8 : 0 ≤ tnv8.toInt ∧ tnv8.toInt ≤ 4) (h_tnv11 : 0 ≤ tnv11.toInt ∧ tnv11.toInt ≤ 6) (h_tnv16 : 0 ≤ tnv16.toInt ∧ tnv16.toInt ≤ 2) (hp_tng3_0 : PR 10 1 0 0 7 tng3) (hp_tng4_0 : PR 10 1 0 0 7 tng4) (hp_tng5_0 : PR 10 1 0 0 60 tng5) (hp_tng6_0 : PR 10 1 0 0 10 tng6) (hp_tng9_0 : PR 4 1 0 0 7 tng9) (hp_tng10_0 : PR 4 1 0 0 99 tng10) : Met l yX3_weighLanes (ww yX3_weighLanes cX3_weighLanes 14 none) ({ frames := 8, cells := 0, slots := 0, locals := 232 }) (Pre0 D k [(ob, .inr (3, [.ref oba, .ref ob_1])), (oba, .inr (1, [.ref oba_0, .int obav1, .int obav2])), (oba_0, .inl (k 0, 8, .inl obag0)), (ob_1, .inl (k 2, 1000, .inr (.inl obg1))), (tn, .inr (10, [.int tnv0, .int tnv1, .int tnv2, .ref tn_3, .ref tn_4, .ref tn_5, .ref tn_6, .int tnv7, .int tnv8, .ref tn_9, .ref tn_10, .int tnv11, .ref tn_12, .ref tn_13, .ref tn_14, .ref tn_15, .int tnv16, .ref tn_17, .ref tn_18, .ref tnt])), (tn_3, .inl (k 0, 10, .inl tng3)), (tn_4, .inl (k 0, 10, .inl tng4)), (tn_5, .inl (k 0, 10, .inl tng5)), (tn_6, .inl (k 0, 10, .inl tng6)), (tn_9, .inl (k 0, 4, .inl tng9)), (tn_10, .inl (k 0, 4, .inl tng10))] sz [.ref ob, .ref tn, .int p1, .int p2, .int p3, .long p4, .int 6]) (va_Qv (fun (u : Int32 × Int32 × (Nat → Int32) × (Nat → Int64)) => match u with | (obav1z, obav2z, obag0z, obg1z) => (PR 8 1 0 0 1000000 obag0z)) (fun (u : Int32 × Int32 × (Nat → Int32) × (Nat → Int64)) tZ => match u with | (obav1z, obav2z, obag0z, obg1z) => Bw D k (va_A [(ob, .inr (3, [.ref oba, .ref ob_1])), (oba, .inr (1, [.ref oba_0, .int obav1, .int obav2])), (oba_0, .inl (k 0, 8, .inl obag0)), (ob_1, .inl (k 2, 1000, .inr (.inl obg1))), (tn, .inr (10, [.int tnv0, .int tnv1, .int tnv2, .ref tn_3, .ref tn_4, .ref tn_5, .ref tn_6, .int tnv7, .int tnv8, .ref tn_9, .ref tn_10, .int tnv11, .ref tn_12, .ref tn_13, .ref tn_14, .ref tn_15, .int tnv16, .ref tn_17, .ref tn_18, .ref tnt])), (tn_3, .inl (k 0, 10, .inl tng3)), (tn_4, .inl (k 0, 10, .inl tng4)), (tn_5, .inl (k 0, 10, .inl tng5)), (tn_6, .inl (k 0, 10, .inl tng6)), (tn_9, .inl (k 0, 4, .inl tng9)), (tn_10, .inl (k 0, 4, .inl tng10))] sz) [(ob, .inr (3, [.ref oba, .ref ob_1])), (oba, .inr (1, [.ref oba_0, .int obav1z, .int obav2z])), (oba_0, .inl (k 0, 8, .inl obag0z)), (ob_1, .inl (k 2, 1000, .inr (.inl obg1z))), (tn, .inr (10, [.int tnv0, .int tnv1, .int tnv2, .ref tn_3, .ref tn_4, .ref tn_5, .ref tn_6, .int tnv7, .int tnv8, .ref tn_9, .ref tn_10, .int tnv11, .ref tn_12, .ref tn_13, .ref tn_14, .ref tn_15, .int tnv16, .ref tn_17, .ref tn_18, .ref tnt])), (tn_3, .inl (k 0, 10, .inl tng3)), (tn_4, .inl (k 0, 10, .inl tng4)), (tn_5, .inl (k 0, 10, .inl tng5)), (tn_6, .inl (k 0, 10, .inl tng6)), (tn_9, .inl (k 0, 4, .inl tng9)), (tn_10, .inl (k 0, 4, .inl tng10))] tZ) (va_A [(ob, .inr (3, [.ref oba, .ref ob_1])), (oba, .inr (1, [.ref oba_0, .int obav1, .int obav2])), (oba_0, .inl (k 0, 8, .inl obag0)), (ob_1, .inl (k 2, 1000, .inr (.inl obg1))), (tn, .inr (10, [.int tnv0, .int tnv1, .int tnv2, .ref tn_3, .ref tn_4, .ref tn_5, .ref tn_6, .int tnv7, .int tnv8, .ref tn_9, .ref tn_10, .int tnv11, .ref tn_12, .ref tn_13, .ref tn_14, .ref tn_15, .int tnv16, .ref tn_17, .ref tn_18, .ref tnt])), (tn_3, .inl (k 0, 10, .inl tng3)), (tn_4, .inl (k 0, 10, .inl tng4)), (tn_5, .inl (k 0, 10, .inl tng5)), (tn_6, .inl (k 0, 10, .inl tng6)), (tn_9, .inl (k 0, 4, .inl tng9)), (tn_10, .inl (k 0, 4, .inl tng10))] sz)) 0 0 (va_A [(ob, .inr (3, [.ref oba, .ref ob_1])), (oba, .inr (1, [.ref oba_0, .int obav1, .int obav2])), (oba_0, .inl (k 0, 8, .inl obag0)), (ob_1, .inl (k 2, 1000, .inr (.inl obg1))), (tn, .inr (10, [.int tnv0, .int tnv1, .int tnv2, .ref tn_3, .ref tn_4, .ref tn_5, .ref tn_6, .int tnv7, .int tnv8, .ref tn_9, .ref tn_10, .int tnv11, .ref tn_12, .ref tn_13, .ref tn_14, .ref tn_15, .int tnv16, .ref tn_17, .ref tn_18, .ref tnt])), (tn_3, .inl (k 0, 10, .inl tng3)), (tn_4, .inl (k 0, 10, .inl tng4)), (tn_5, .inl (k 0, 10, .inl tng5)), (tn_6, .inl (k 0, 10, .inl tng6)), (tn_9, .inl (k 0, 4, .inl tng9)), (tn_10, .inl (k 0, 4, .inl tng10))] sz) := by
  refine Met.ofW (cc := cX3_weighLanes) (maxL := 14) (ret := none) (by decide +kernel) rfl ?_
  intro p e s m args below meth c s₁ B hml hv
  obtain ⟨rfl, hsz, hP, hK, hD0, hN⟩ := hv
  have hx := B.exec
  have hb := B.bytes
  have hr := B.returns
  have hts : ∀ w ∈ TT, w.before _ s = true := fun w h => atoms_spec (ws := ww yX3_weighLanes cX3_weighLanes 14 none) B.pre w (List.mem_cons_of_mem _ h)
  have hown : s.vm.findClass RX3 = some m.cls := findClass_of_methodNamed B.named
  have hlocks := B.notSynchronized
  subst hsz
  have hD := hD0.self (sz := s.heap.size)
  generalize hAe : va_A [(ob, .inr (3, [.ref oba, .ref ob_1])), (oba, .inr (1, [.ref oba_0, .int obav1, .int obav2])), (oba_0, .inl (k 0, 8, .inl obag0)), (ob_1, .inl (k 2, 1000, .inr (.inl obg1))), (tn, .inr (10, [.int tnv0, .int tnv1, .int tnv2, .ref tn_3, .ref tn_4, .ref tn_5, .ref tn_6, .int tnv7, .int tnv8, .ref tn_9, .ref tn_10, .int tnv11, .ref tn_12, .ref tn_13, .ref tn_14, .ref tn_15, .int tnv16, .ref tn_17, .ref tn_18, .ref tnt])), (tn_3, .inl (k 0, 10, .inl tng3)), (tn_4, .inl (k 0, 10, .inl tng4)), (tn_5, .inl (k 0, 10, .inl tng5)), (tn_6, .inl (k 0, 10, .inl tng6)), (tn_9, .inl (k 0, 4, .inl tng9)), (tn_10, .inl (k 0, 4, .inl tng10))] s.heap.size = A at hD ⊢
  have hA : ∀ q : Nat, s.heap.size ≤ q → A q := fun q h => by rw [← hAe]; exact Or.inr h
  have hS : va_S A s.heap s.heap [] := va_S.rf
  have hl := lv_entry ([.ref ob, .ref tn, .int p1, .int p2, .int p3, .long p4, .int 6]) (n := 14) (Nat.le_of_ble_eq_true rfl)
  rw [lg_entry_eq]
  generalize (lg_sl ([.ref ob, .ref tn, .int p1, .int p2, .int p3, .long p4, .int 6]) ++ List.replicate (14 - (lg_sl ([.ref ob, .ref tn, .int p1, .int p2, .int p3, .long p4, .int 6])).length) Slot.unset).toArray = ls at hl ⊢
  have hl : lv_has ls 14 [(0, .ref ob), (1, .ref tn), (2, .int p1), (3, .int p2), (4, .int p3), (5, .long p4), (7, .int 6)] := hl
  refine lv_aload_n hx hb dX3_weighLanes_0 rfl (lv_at hl 0 rfl) ?_
  refine va_get (D := D) (ci := 3) (v := .ref oba) (C := RX3) (T := TX3) (N := 2) hx hb hts iT_X3 hown hK hP 0 rfl rfl 0 (by decide) (hts _ tw_2_163) (fun _ h9 => h9) rfl dX3_weighLanes_1 ?_
  refine lv_aload_n hx hb dX3_weighLanes_4 rfl (lv_at hl 1 rfl) ?_
  refine lv_aload_n hx hb dX3_weighLanes_5 rfl (lv_at hl 1 rfl) ?_
  obtain ⟨hPc, hDc, hFc⟩ := sub3 hP hD hS hA (ws' := [(tn, .inr (10, [.int tnv0, .int tnv1, .int tnv2, .ref tn_3, .ref tn_4, .ref tn_5, .ref tn_6, .int tnv7, .int tnv8, .ref tn_9, .ref tn_10, .int tnv11, .ref tn_12, .ref tn_13, .ref tn_14, .ref tn_15, .int tnv16, .ref tn_17, .ref tn_18, .ref tnt]))]) [4] (by decide +kernel) rfl
  refine va_calli (va_runV (C := RX10) (As := []) (rest := [.ref tn, .ref oba]) ⟨hx, hb, hml, hown, hts⟩ (c_X10_openLanes l D k tn tnv0 tnv1 tnv2 tn_3 tn_4 tn_5 tn_6 tnv7 tnv8 tn_9 tn_10 tnv11 tn_12 tn_13 tn_14 tn_15 tnv16 tn_17 tn_18 tnt s.heap.size (show 0 ≤ tnv0.toInt ∧ tnv0.toInt ≤ 8 from by omega) (show 0 ≤ tnv2.toInt ∧ tnv2.toInt ≤ 10 from by omega) (show 0 ≤ tnv8.toInt ∧ tnv8.toInt ≤ 4 from by omega) (show 0 ≤ tnv11.toInt ∧ tnv11.toInt ≤ 6 from by omega) (show 0 ≤ tnv16.toInt ∧ tnv16.toInt ≤ 2 from by omega)) (cwV 0 hts (gV tw_5_155 tw_3_180 tw_3_181 tw_1_3 tw_3_182) rfl rfl rfl hdV_X10_openLanes ⟨Nat.le_of_ble_eq_true rfl, Nat.le_of_ble_eq_true rfl⟩) (cz_V hK hPc hDc hN (ci := 10) (q0 := 0) rfl rfl []) rfl rfl hl.1 rfl (lv_room (Nat.le_of_ble_eq_true rfl)) dX3_weighLanes_6 ⟨Nat.le_of_ble_eq_true rfl, Nat.le_of_ble_eq_true rfl⟩) hS (fun q _ h => hFc q h) hFc (fun r_1 uZ tZ H1 locs ht hvm hw hB hz1 hk1 hS => ?_)
  obtain ⟨hP1, hK1, hD1⟩ := hB
  rw [ht] at hP1
  obtain ⟨hP, hD⟩ := va_join (wr := [(ob, .inr (3, [.ref oba, .ref ob_1])), (oba, .inr (1, [.ref oba_0, .int obav1, .int obav2])), (oba_0, .inl (k 0, 8, .inl obag0)), (ob_1, .inl (k 2, 1000, .inr (.inl obg1))), (tn_3, .inl (k 0, 10, .inl tng3)), (tn_4, .inl (k 0, 10, .inl tng4)), (tn_5, .inl (k 0, 10, .inl tng5)), (tn_6, .inl (k 0, 10, .inl tng6)), (tn_9, .inl (k 0, 4, .inl tng9)), (tn_10, .inl (k 0, 4, .inl tng10))]) (w1 := [(tn, .inr (10, [.int tnv0, .int tnv1, .int tnv2, .ref tn_3, .ref tn_4, .ref tn_5, .ref tn_6, .int tnv7, .int tnv8, .ref tn_9, .ref tn_10, .int tnv11, .ref tn_12, .ref tn_13, .ref tn_14, .ref tn_15, .int tnv16, .ref tn_17, .ref tn_18, .ref tnt]))]) hP hD [4] [0, 1, 2, 3, 5, 6, 7, 8, 9, 10] rfl rfl (by decide +kernel) (by decide +kernel) hk1 hFc hP1 hD1
  clear hK1 hP1 hD1 hPc hDc hFc
  clear hk1 hz1 ht hvm
  have hP : va_P D vwCl [(ob, .inr (3, [.ref oba, .ref ob_1])), (oba, .inr (1, [.ref oba_0, .int obav1, .int obav2])), (oba_0, .inl (k 0, 8, .inl obag0)), (ob_1, .inl (k 2, 1000, .inr (.inl obg1))), (tn_3, .inl (k 0, 10, .inl tng3)), (tn_4, .inl (k 0, 10, .inl tng4)), (tn_5, .inl (k 0, 10, .inl tng5)), (tn_6, .inl (k 0, 10, .inl tng6)), (tn_9, .inl (k 0, 4, .inl tng9)), (tn_10, .inl (k 0, 4, .inl tng10)), (tn, .inr (10, [.int tnv0, .int tnv1, .int tnv2, .ref tn_3, .ref tn_4, .ref tn_5, .ref tn_6, .int tnv7, .int tnv8, .ref tn_9, .ref tn_10, .int tnv11, .ref tn_12, .ref tn_13, .ref tn_14, .ref tn_15, .int tnv16, .ref tn_17, .ref tn_18, .ref tnt]))] H1 := hP
  have hD : va_D A [(ob, .inr (3, [.ref oba, .ref ob_1])), (oba, .inr (1, [.ref oba_0, .int obav1, .int obav2])), (oba_0, .inl (k 0, 8, .inl obag0)), (ob_1, .inl (k 2, 1000, .inr (.inl obg1))), (tn_3, .inl (k 0, 10, .inl tng3)), (tn_4, .inl (k 0, 10, .inl tng4)), (tn_5, .inl (k 0, 10, .inl tng5)), (tn_6, .inl (k 0, 10, .inl tng6)), (tn_9, .inl (k 0, 4, .inl tng9)), (tn_10, .inl (k 0, 4, .inl tng10)), (tn, .inr (10, [.int tnv0, .int tnv1, .int tnv2, .ref tn_3, .ref tn_4, .ref tn_5, .ref tn_6, .int tnv7, .int tnv8, .ref tn_9, .ref tn_10, .int tnv11, .ref tn_12, .ref tn_13, .ref tn_14, .ref tn_15, .int tnv16, .ref tn_17, .ref tn_18, .ref tnt]))] := hD
  generalize H1 = H at hP hS ⊢
  have hw_2 : (0 ≤ r_1.toInt ∧ r_1.toInt ≤ 1023) := hw
  have hw_3 := hw_2
  clear hw
  refine lv_iload hx hb dX3_weighLanes_9 (lv_at hl 4 rfl) ?_
  obtain ⟨hPc, hDc, hFc⟩ := sub3 hP hD hS hA (ws' := [(oba, .inr (1, [.ref oba_0, .int obav1, .int obav2])), (oba_0, .inl (k 0, 8, .inl obag0)), (tn, .inr (10, [.int tnv0, .int tnv1, .int tnv2, .ref tn_3, .ref tn_4, .ref tn_5, .ref tn_6, .int tnv7, .int tnv8, .ref tn_9, .ref tn_10, .int tnv11, .ref tn_12, .ref tn_13, .ref tn_14, .ref tn_15, .int tnv16, .ref tn_17, .ref tn_18, .ref tnt])), (tn_3, .inl (k 0, 10, .inl tng3)), (tn_4, .inl (k 0, 10, .inl tng4)), (tn_5, .inl (k 0, 10, .inl tng5)), (tn_9, .inl (k 0, 4, .inl tng9)), (tn_10, .inl (k 0, 4, .inl tng10))]) [1, 2, 10, 4, 5, 6, 8, 9] (by decide +kernel) rfl
  refine va_callv (va_runV (C := RX1) (As := [.ref tn, .int r_1, .int p3]) (rest := []) ⟨hx, hb, hml, hown, hts⟩ (c_X1_fall l D k oba tn r_1 p3 oba_0 obav1 obav2 obag0 tnv0 tnv1 tnv2 tn_3 tn_4 tn_5 tn_6 tnv7 tnv8 tn_9 tn_10 tnv11 tn_12 tn_13 tn_14 tn_15 tnv16 tn_17 tn_18 tnt tng3 tng4 tng5 tng9 tng10 H.size hp_obag0_0 (show 0 ≤ tnv0.toInt ∧ tnv0.toInt ≤ 8 from by omega) (show 0 ≤ tnv2.toInt ∧ tnv2.toInt ≤ 10 from by omega) (show 0 ≤ tnv8.toInt ∧ tnv8.toInt ≤ 4 from by omega) (show 0 ≤ tnv11.toInt ∧ tnv11.toInt ≤ 6 from by omega) (show 0 ≤ tnv16.toInt ∧ tnv16.toInt ≤ 2 from by omega) hp_tng3_0 hp_tng4_0 hp_tng5_0 hp_tng9_0 hp_tng10_0) (cwV 3 hts (gV tw_5_156 tw_3_184 tw_3_185 tw_1_6 tw_3_186) rfl rfl rfl hdV_X1_fall ⟨Nat.le_of_ble_eq_true rfl, Nat.le_of_ble_eq_true rfl⟩) (cz_V hK hPc hDc hN (ci := 1) (q0 := 0) rfl rfl [.ref tn, .int r_1, .int p3]) rfl rfl hl.1 rfl (lv_room (Nat.le_of_ble_eq_true rfl)) dX3_weighLanes_11 ⟨Nat.le_of_ble_eq_true rfl, Nat.le_of_ble_eq_true rfl⟩) hS (fun q _ h => hFc q h) hFc (fun uZ tZ H1 locs ht hvm hw hB hz1 hk1 hS => ?_)
  obtain ⟨o_5, o_6, o_7⟩ := uZ
  obtain ⟨hP1, hK1, hD1⟩ := hB
  rw [ht] at hP1
  obtain ⟨hP, hD⟩ := va_join (wr := [(ob, .inr (3, [.ref oba, .ref ob_1])), (ob_1, .inl (k 2, 1000, .inr (.inl obg1))), (tn_6, .inl (k 0, 10, .inl tng6))]) (w1 := [(oba, .inr (1, [.ref oba_0, .int o_5, .int o_6])), (oba_0, .inl (k 0, 8, .inl o_7)), (tn, .inr (10, [.int tnv0, .int tnv1, .int tnv2, .ref tn_3, .ref tn_4, .ref tn_5, .ref tn_6, .int tnv7, .int tnv8, .ref tn_9, .ref tn_10, .int tnv11, .ref tn_12, .ref tn_13, .ref tn_14, .ref tn_15, .int tnv16, .ref tn_17, .ref tn_18, .ref tnt])), (tn_3, .inl (k 0, 10, .inl tng3)), (tn_4, .inl (k 0, 10, .inl tng4)), (tn_5, .inl (k 0, 10, .inl tng5)), (tn_9, .inl (k 0, 4, .inl tng9)), (tn_10, .inl (k 0, 4, .inl tng10))]) hP hD [1, 2, 10, 4, 5, 6, 8, 9] [0, 3, 7] rfl rfl (by decide +kernel) (by decide +kernel) hk1 hFc hP1 hD1
  clear hK1 hP1 hD1 hPc hDc hFc
  clear hk1 hz1 ht hvm
  have hP : va_P D vwCl [(ob, .inr (3, [.ref oba, .ref ob_1])), (ob_1, .inl (k 2, 1000, .inr (.inl obg1))), (tn_6, .inl (k 0, 10, .inl tng6)), (oba, .inr (1, [.ref oba_0, .int o_5, .int o_6])), (oba_0, .inl (k 0, 8, .inl o_7)), (tn, .inr (10, [.int tnv0, .int tnv1, .int tnv2, .ref tn_3, .ref tn_4, .ref tn_5, .ref tn_6, .int tnv7, .int tnv8, .ref tn_9, .ref tn_10, .int tnv11, .ref tn_12, .ref tn_13, .ref tn_14, .ref tn_15, .int tnv16, .ref tn_17, .ref tn_18, .ref tnt])), (tn_3, .inl (k 0, 10, .inl tng3)), (tn_4, .inl (k 0, 10, .inl tng4)), (tn_5, .inl (k 0, 10, .inl tng5)), (tn_9, .inl (k 0, 4, .inl tng9)), (tn_10, .inl (k 0, 4, .inl tng10))] H1 := hP
  have hD : va_D A [(ob, .inr (3, [.ref oba, .ref ob_1])), (ob_1, .inl (k 2, 1000, .inr (.inl obg1))), (tn_6, .inl (k 0, 10, .inl tng6)), (oba, .inr (1, [.ref oba_0, .int o_5, .int o_6])), (oba_0, .inl (k 0, 8, .inl o_7)), (tn, .inr (10, [.int tnv0, .int tnv1, .int tnv2, .ref tn_3, .ref tn_4, .ref tn_5, .ref tn_6, .int tnv7, .int tnv8, .ref tn_9, .ref tn_10, .int tnv11, .ref tn_12, .ref tn_13, .ref tn_14, .ref tn_15, .int tnv16, .ref tn_17, .ref tn_18, .ref tnt])), (tn_3, .inl (k 0, 10, .inl tng3)), (tn_4, .inl (k 0, 10, .inl tng4)), (tn_5, .inl (k 0, 10, .inl tng5)), (tn_9, .inl (k 0, 4, .inl tng9)), (tn_10, .inl (k 0, 4, .inl tng10))] := hD
  generalize H1 = H at hP hS ⊢
  have hw_8 : (PR 8 1 0 0 1000000 o_7) := hw
  have hw_9 := hw_8
  clear hw
  refine lv_aload_n hx hb dX3_weighLanes_14 rfl (lv_at hl 0 rfl) ?_
  refine va_get (D := D) (ci := 3) (v := .ref oba) (C := RX3) (T := TX3) (N := 2) hx hb hts iT_X3 hown hK hP 0 rfl rfl 0 (by decide) (hts _ tw_2_163) (fun _ h9 => h9) rfl dX3_weighLanes_15 ?_
  refine va_get (D := D) (ci := 1) (v := .ref oba_0) (C := RX1) (T := TX1) (N := 3) hx hb hts iT_X1 hown hK hP 3 rfl rfl 0 (by decide) (hts _ tw_2_21) (fun _ h9 => h9) rfl dX3_weighLanes_18 ?_
  refine lv_iload_n hx hb dX3_weighLanes_21 rfl (lv_at hl 2 rfl) ?_
  refine va_iald hx hb hK hP 4 0 rfl rfl (z_in (by omega) (by omega)) dX3_weighLanes_22 ?_
  refine lv_topi (fun x_10 ex_10 => ?_)
  have zx_10r0 : 0 ≤ x_10.toInt ∧ x_10.toInt ≤ 1000000 := by rw [ex_10]; exact PR.ld hw_9 (by omega) (by omega) (by omega)
  refine lv_istore (lv' := [(8, .int x_10), (0, .ref ob), (1, .ref tn), (2, .int p1), (3, .int p2), (4, .int p3), (5, .long p4), (7, .int 6)]) hx hb dX3_weighLanes_23 hl (by decide) rfl (fun ls hl => ?_)
  refine lv_iload hx hb dX3_weighLanes_25 (lv_at hl 0 rfl) ?_
  refine lv_sipush (v := 1000) hx hb dX3_weighLanes_27 (by decide) ?_
  refine lv_icmp_lt (tgt := 34) hx hb dX3_weighLanes_30 (by decide) (fun h_11 => ?_) (fun h_11 => ?_)
  · skip
    have zh_11 : x_10.toInt < 1000 := z_lt h_11
    refine lv_aload_n hx hb dX3_weighLanes_34 rfl (lv_at hl 1 rfl) ?_
    refine va_get (D := D) (ci := 3) (v := .ref oba) (C := RX3) (T := TX3) (N := 2) hx hb hts iT_X3 hown hK hP 0 rfl rfl 0 (by decide) (hts _ tw_2_163) (fun _ h9 => h9) rfl dX3_weighLanes_35 ?_
    refine lv_aload_n hx hb dX3_weighLanes_38 rfl (lv_at hl 2 rfl) ?_
    refine lv_iload_n hx hb dX3_weighLanes_39 rfl (lv_at hl 3 rfl) ?_
    obtain ⟨hPc, hDc, hFc⟩ := sub3 hP hD hS hA (ws' := [(oba, .inr (1, [.ref oba_0, .int o_5, .int o_6])), (oba_0, .inl (k 0, 8, .inl o_7)), (tn, .inr (10, [.int tnv0, .int tnv1, .int tnv2, .ref tn_3, .ref tn_4, .ref tn_5, .ref tn_6, .int tnv7, .int tnv8, .ref tn_9, .ref tn_10, .int tnv11, .ref tn_12, .ref tn_13, .ref tn_14, .ref tn_15, .int tnv16, .ref tn_17, .ref tn_18, .ref tnt])), (tn_3, .inl (k 0, 10, .inl tng3)), (tn_4, .inl (k 0, 10, .inl tng4)), (tn_5, .inl (k 0, 10, .inl tng5)), (tn_9, .inl (k 0, 4, .inl tng9)), (tn_10, .inl (k 0, 4, .inl tng10))]) [3, 4, 5, 6, 7, 8, 9, 10] (by decide +kernel) rfl
    refine va_calli (va_runV (C := RX1) (As := [.ref tn, .int p1]) (rest := []) ⟨hx, hb, hml, hown, hts⟩ (c_X1_wayTo l D k oba tn p1 oba_0 o_5 o_6 o_7 tnv0 tnv1 tnv2 tn_3 tn_4 tn_5 tn_6 tnv7 tnv8 tn_9 tn_10 tnv11 tn_12 tn_13 tn_14 tn_15 tnv16 tn_17 tn_18 tnt tng3 tng4 tng5 tng9 tng10 H.size (show 0 ≤ p1.toInt ∧ p1.toInt ≤ 7 from by omega) hw_9 (show 0 ≤ tnv0.toInt ∧ tnv0.toInt ≤ 8 from by omega) (show 0 ≤ tnv2.toInt ∧ tnv2.toInt ≤ 10 from by omega) (show 0 ≤ tnv8.toInt ∧ tnv8.toInt ≤ 4 from by omega) (show 0 ≤ tnv11.toInt ∧ tnv11.toInt ≤ 6 from by omega) (show 0 ≤ tnv16.toInt ∧ tnv16.toInt ≤ 2 from by omega) hp_tng3_0 hp_tng4_0 hp_tng5_0 hp_tng9_0 hp_tng10_0) (cwV 2 hts (gV tw_5_157 tw_4_96 tw_4_97 tw_1_6 tw_4_98) rfl rfl rfl hdV_X1_wayTo ⟨Nat.le_of_ble_eq_true rfl, Nat.le_of_ble_eq_true rfl⟩) (cz_V hK hPc hDc hN (ci := 1) (q0 := 0) rfl rfl [.ref tn, .int p1]) rfl rfl hl.1 rfl (lv_room (Nat.le_of_ble_eq_true rfl)) dX3_weighLanes_40 ⟨Nat.le_of_ble_eq_true rfl, Nat.le_of_ble_eq_true rfl⟩) hS (fun q _ h => hFc q h) hFc (fun r_12 uZ tZ H1 locs ht hvm hw hB hz1 hk1 hS => ?_)
    obtain ⟨hP1, hK1, hD1⟩ := hB
    rw [ht] at hP1
    obtain ⟨hP, hD⟩ := va_join (wr := [(ob, .inr (3, [.ref oba, .ref ob_1])), (ob_1, .inl (k 2, 1000, .inr (.inl obg1))), (tn_6, .inl (k 0, 10, .inl tng6))]) (w1 := [(oba, .inr (1, [.ref oba_0, .int o_5, .int o_6])), (oba_0, .inl (k 0, 8, .inl o_7)), (tn, .inr (10, [.int tnv0, .int tnv1, .int tnv2, .ref tn_3, .ref tn_4, .ref tn_5, .ref tn_6, .int tnv7, .int tnv8, .ref tn_9, .ref tn_10, .int tnv11, .ref tn_12, .ref tn_13, .ref tn_14, .ref tn_15, .int tnv16, .ref tn_17, .ref tn_18, .ref tnt])), (tn_3, .inl (k 0, 10, .inl tng3)), (tn_4, .inl (k 0, 10, .inl tng4)), (tn_5, .inl (k 0, 10, .inl tng5)), (tn_9, .inl (k 0, 4, .inl tng9)), (tn_10, .inl (k 0, 4, .inl tng10))]) hP hD [3, 4, 5, 6, 7, 8, 9, 10] [0, 1, 2] rfl rfl (by decide +kernel) (by decide +kernel) hk1 hFc hP1 hD1
    clear hK1 hP1 hD1 hPc hDc hFc
    clear hk1 hz1 ht hvm
    have hP : va_P D vwCl [(ob, .inr (3, [.ref oba, .ref ob_1])), (ob_1, .inl (k 2, 1000, .inr (.inl obg1))), (tn_6, .inl (k 0, 10, .inl tng6)), (oba, .inr (1, [.ref oba_0, .int o_5, .int o_6])), (oba_0, .inl (k 0, 8, .inl o_7)), (tn, .inr (10, [.int tnv0, .int tnv1, .int tnv2, .ref tn_3, .ref tn_4, .ref tn_5, .ref tn_6, .int tnv7, .int tnv8, .ref tn_9, .ref tn_10, .int tnv11, .ref tn_12, .ref tn_13, .ref tn_14, .ref tn_15, .int tnv16, .ref tn_17, .ref tn_18, .ref tnt])), (tn_3, .inl (k 0, 10, .inl tng3)), (tn_4, .inl (k 0, 10, .inl tng4)), (tn_5, .inl (k 0, 10, .inl tng5)), (tn_9, .inl (k 0, 4, .inl tng9)), (tn_10, .inl (k 0, 4, .inl tng10))] H1 := hP
    have hD : va_D A [(ob, .inr (3, [.ref oba, .ref ob_1])), (ob_1, .inl (k 2, 1000, .inr (.inl obg1))), (tn_6, .inl (k 0, 10, .inl tng6)), (oba, .inr (1, [.ref oba_0, .int o_5, .int o_6])), (oba_0, .inl (k 0, 8, .inl o_7)), (tn, .inr (10, [.int tnv0, .int tnv1, .int tnv2, .ref tn_3, .ref tn_4, .ref tn_5, .ref tn_6, .int tnv7, .int tnv8, .ref tn_9, .ref tn_10, .int tnv11, .ref tn_12, .ref tn_13, .ref tn_14, .ref tn_15, .int tnv16, .ref tn_17, .ref tn_18, .ref tnt])), (tn_3, .inl (k 0, 10, .inl tng3)), (tn_4, .inl (k 0, 10, .inl tng4)), (tn_5, .inl (k 0, 10, .inl tng5)), (tn_9, .inl (k 0, 4, .inl tng9)), (tn_10, .inl (k 0, 4, .inl tng10))] := hD
    generalize H1 = H at hP hS ⊢
    have hw_13 : (0 ≤ r_12.toInt ∧ r_12.toInt ≤ 1023) := hw
    have hw_14 := hw_13
    clear hw
    refine lv_iload_n hx hb dX3_weighLanes_43 rfl (lv_at hl 4 rfl) ?_
    refine lv_iconst (v := (-1)) hx hb dX3_weighLanes_44 (by decide) ?_
    refine lv_ixor hx hb dX3_weighLanes_45 ?_
    refine lv_topi (fun x_15 ex_15 => ?_)
    have zrp2 := z_rng p2
    refine lv_iand hx hb dX3_weighLanes_46 ?_
    refine lv_topi (fun x_16 ex_16 => ?_)
    have zrx_15 := z_rng x_15
    have zx_16 : 0 ≤ x_16.toInt ∧ x_16.toInt ≤ r_12.toInt := by rw [ex_16]; exact z_andL (by omega)
    refine lv_istore (lv' := [(9, .int x_16), (8, .int x_10), (0, .ref ob), (1, .ref tn), (2, .int p1), (3, .int p2), (4, .int p3), (5, .long p4), (7, .int 6)]) hx hb dX3_weighLanes_47 hl (by decide) rfl (fun ls hl => ?_)
    refine lv_iload hx hb dX3_weighLanes_49 (lv_at hl 0 rfl) ?_
    refine lv_iload hx hb dX3_weighLanes_51 (lv_at hl 0 rfl) ?_
    refine lv_ineg hx hb dX3_weighLanes_53 ?_
    refine lv_topi (fun x_17 ex_17 => ?_)
    refine lv_iand hx hb dX3_weighLanes_54 ?_
    refine lv_topi (fun x_18 ex_18 => ?_)
    have zrx_17 := z_rng x_17
    have zx_18 : 0 ≤ x_18.toInt ∧ x_18.toInt ≤ x_16.toInt := by rw [ex_18]; exact z_andL (by omega)
    refine lv_iconst (v := 1) hx hb dX3_weighLanes_55 (by decide) ?_
    refine lv_isub hx hb dX3_weighLanes_56 ?_
    refine lv_topi (fun x_19 ex_19 => ?_)
    have zx_19 : x_19.toInt = x_18.toInt - 1 := by rw [ex_19]; exact z_sub rfl rfl (by omega) (by omega)
    obtain ⟨hPc, hDc, hFc⟩ := sub3 hP hD hS hA (ws' := []) [] (by decide +kernel) rfl
    refine va_calli (va_runS (As := [.int x_19]) (rest := []) ⟨hx, hb, hml, hown, hts⟩ (c_J6_bitCount_0f7a4 l D k x_19 H.size) (va_cwS 1 hts (gS tw_5_158 tw_4_101 tw_1_20 tw_4_102) rfl rfl rfl hdS_J6_bitCount_0f7a4 ⟨Nat.le_of_ble_eq_true rfl, Nat.le_of_ble_eq_true rfl⟩) (cz_S hK hPc hDc hN [.int x_19]) rfl rfl hl.1 rfl (lv_room (Nat.le_of_ble_eq_true rfl)) dX3_weighLanes_57 ⟨Nat.le_of_ble_eq_true rfl, Nat.le_of_ble_eq_true rfl⟩) hS (fun q _ h => hFc q h) hFc (fun r_20 uZ tZ H1 locs ht hvm hw hB hz1 hk1 hS => ?_)
    obtain ⟨hP1, hK1, hD1⟩ := hB
    rw [ht] at hP1
    obtain ⟨hP, hD⟩ := va_join (wr := [(ob, .inr (3, [.ref oba, .ref ob_1])), (ob_1, .inl (k 2, 1000, .inr (.inl obg1))), (tn_6, .inl (k 0, 10, .inl tng6)), (oba, .inr (1, [.ref oba_0, .int o_5, .int o_6])), (oba_0, .inl (k 0, 8, .inl o_7)), (tn, .inr (10, [.int tnv0, .int tnv1, .int tnv2, .ref tn_3, .ref tn_4, .ref tn_5, .ref tn_6, .int tnv7, .int tnv8, .ref tn_9, .ref tn_10, .int tnv11, .ref tn_12, .ref tn_13, .ref tn_14, .ref tn_15, .int tnv16, .ref tn_17, .ref tn_18, .ref tnt])), (tn_3, .inl (k 0, 10, .inl tng3)), (tn_4, .inl (k 0, 10, .inl tng4)), (tn_5, .inl (k 0, 10, .inl tng5)), (tn_9, .inl (k 0, 4, .inl tng9)), (tn_10, .inl (k 0, 4, .inl tng10))]) (w1 := []) hP hD [] [0, 1, 2, 3, 4, 5, 6, 7, 8, 9, 10] rfl rfl (by decide +kernel) (by decide +kernel) hk1 hFc hP1 hD1
    clear hK1 hP1 hD1 hPc hDc hFc
    clear hk1 hz1 ht hvm
    have hP : va_P D vwCl [(ob, .inr (3, [.ref oba, .ref ob_1])), (ob_1, .inl (k 2, 1000, .inr (.inl obg1))), (tn_6, .inl (k 0, 10, .inl tng6)), (oba, .inr (1, [.ref oba_0, .int o_5, .int o_6])), (oba_0, .inl (k 0, 8, .inl o_7)), (tn, .inr (10, [.int tnv0, .int tnv1, .int tnv2, .ref tn_3, .ref tn_4, .ref tn_5, .ref tn_6, .int tnv7, .int tnv8, .ref tn_9, .ref tn_10, .int tnv11, .ref tn_12, .ref tn_13, .ref tn_14, .ref tn_15, .int tnv16, .ref tn_17, .ref tn_18, .ref tnt])), (tn_3, .inl (k 0, 10, .inl tng3)), (tn_4, .inl (k 0, 10, .inl tng4)), (tn_5, .inl (k 0, 10, .inl tng5)), (tn_9, .inl (k 0, 4, .inl tng9)), (tn_10, .inl (k 0, 4, .inl tng10))] H1 := hP
    have hD : va_D A [(ob, .inr (3, [.ref oba, .ref ob_1])), (ob_1, .inl (k 2, 1000, .inr (.inl obg1))), (tn_6, .inl (k 0, 10, .inl tng6)), (oba, .inr (1, [.ref oba_0, .int o_5, .int o_6])), (oba_0, .inl (k 0, 8, .inl o_7)), (tn, .inr (10, [.int tnv0, .int tnv1, .int tnv2, .ref tn_3, .ref tn_4, .ref tn_5, .ref tn_6, .int tnv7, .int tnv8, .ref tn_9, .ref tn_10, .int tnv11, .ref tn_12, .ref tn_13, .ref tn_14, .ref tn_15, .int tnv16, .ref tn_17, .ref tn_18, .ref tnt])), (tn_3, .inl (k 0, 10, .inl tng3)), (tn_4, .inl (k 0, 10, .inl tng4)), (tn_5, .inl (k 0, 10, .inl tng5)), (tn_9, .inl (k 0, 4, .inl tng9)), (tn_10, .inl (k 0, 4, .inl tng10))] := hD
    generalize H1 = H at hP hS ⊢
    have hw_21 : (0 ≤ r_20.toInt ∧ r_20.toInt ≤ 63) := hw
    have hw_22 := hw_21
    clear hw
    refine lv_istore (lv' := [(10, .int r_20), (9, .int x_16), (8, .int x_10), (0, .ref ob), (1, .ref tn), (2, .int p1), (3, .int p2), (4, .int p3), (5, .long p4), (7, .int 6)]) hx hb dX3_weighLanes_60 hl (by decide) rfl (fun ls hl => ?_)
    refine lv_iload hx hb dX3_weighLanes_62 (lv_at hl 1 rfl) ?_
    refine lv_if_eq (tgt := 81) hx hb dX3_weighLanes_64 (by decide) (fun h_23 => ?_) (fun h_23 => ?_)
    · skip
      have zh_23 : x_16.toInt = 0 := z_eq h_23
      refine lv_aload_n hx hb dX3_weighLanes_81 rfl (lv_at hl 3 rfl) ?_
      refine va_get (D := D) (ci := 3) (v := .ref ob_1) (C := RX3) (T := TX3) (N := 2) hx hb hts iT_X3 hown hK hP 0 rfl rfl 1 (by decide) (hts _ tw_2_164) (fun _ h9 => h9) rfl dX3_weighLanes_82 ?_
      refine lv_iload hx hb dX3_weighLanes_85 (lv_at hl 2 rfl) ?_
      refine lv_dup2_11 hx hb dX3_weighLanes_87 rfl rfl ?_
      refine va_lald hx hb hK hP 1 2 rfl rfl (z_in (by omega) (by omega)) dX3_weighLanes_88 ?_
      refine lv_topl (fun x_24 ex_24 => ?_)
      refine lv_lload hx hb dX3_weighLanes_89 (lv_at hl 8 rfl) ?_
      refine lv_ladd hx hb dX3_weighLanes_91 ?_
      refine lv_topl (fun x_25 ex_25 => ?_)
      refine va_last hx hb hK hP hD hS 1 2 rfl rfl (z_in (by omega) (by omega)) dX3_weighLanes_92 (fun H locs hP hD hS => ?_)
      obtain ⟨g_26, eg_26⟩ : ∃ z : Nat → Int64, vp_updL obg1 x_10.toNatClampNeg x_25 = z := ⟨_, rfl⟩
      have hP : va_P D vwCl [(ob, .inr (3, [.ref oba, .ref ob_1])), (ob_1, .inl (k 2, 1000, .inr (.inl (vp_updL obg1 x_10.toNatClampNeg x_25)))), (tn_6, .inl (k 0, 10, .inl tng6)), (oba, .inr (1, [.ref oba_0, .int o_5, .int o_6])), (oba_0, .inl (k 0, 8, .inl o_7)), (tn, .inr (10, [.int tnv0, .int tnv1, .int tnv2, .ref tn_3, .ref tn_4, .ref tn_5, .ref tn_6, .int tnv7, .int tnv8, .ref tn_9, .ref tn_10, .int tnv11, .ref tn_12, .ref tn_13, .ref tn_14, .ref tn_15, .int tnv16, .ref tn_17, .ref tn_18, .ref tnt])), (tn_3, .inl (k 0, 10, .inl tng3)), (tn_4, .inl (k 0, 10, .inl tng4)), (tn_5, .inl (k 0, 10, .inl tng5)), (tn_9, .inl (k 0, 4, .inl tng9)), (tn_10, .inl (k 0, 4, .inl tng10))] H := hP
      have hD : va_D A [(ob, .inr (3, [.ref oba, .ref ob_1])), (ob_1, .inl (k 2, 1000, .inr (.inl (vp_updL obg1 x_10.toNatClampNeg x_25)))), (tn_6, .inl (k 0, 10, .inl tng6)), (oba, .inr (1, [.ref oba_0, .int o_5, .int o_6])), (oba_0, .inl (k 0, 8, .inl o_7)), (tn, .inr (10, [.int tnv0, .int tnv1, .int tnv2, .ref tn_3, .ref tn_4, .ref tn_5, .ref tn_6, .int tnv7, .int tnv8, .ref tn_9, .ref tn_10, .int tnv11, .ref tn_12, .ref tn_13, .ref tn_14, .ref tn_15, .int tnv16, .ref tn_17, .ref tn_18, .ref tnt])), (tn_3, .inl (k 0, 10, .inl tng3)), (tn_4, .inl (k 0, 10, .inl tng4)), (tn_5, .inl (k 0, 10, .inl tng5)), (tn_9, .inl (k 0, 4, .inl tng9)), (tn_10, .inl (k 0, 4, .inl tng10))] := hD
      rw [eg_26] at hP hD
      obtain ⟨hP9, hD9⟩ := sub2 hP hD (ws' := [(ob, .inr (3, [.ref oba, .ref ob_1])), (oba, .inr (1, [.ref oba_0, .int o_5, .int o_6])), (oba_0, .inl (k 0, 8, .inl o_7)), (ob_1, .inl (k 2, 1000, .inr (.inl g_26))), (tn, .inr (10, [.int tnv0, .int tnv1, .int tnv2, .ref tn_3, .ref tn_4, .ref tn_5, .ref tn_6, .int tnv7, .int tnv8, .ref tn_9, .ref tn_10, .int tnv11, .ref tn_12, .ref tn_13, .ref tn_14, .ref tn_15, .int tnv16, .ref tn_17, .ref tn_18, .ref tnt])), (tn_3, .inl (k 0, 10, .inl tng3)), (tn_4, .inl (k 0, 10, .inl tng4)), (tn_5, .inl (k 0, 10, .inl tng5)), (tn_6, .inl (k 0, 10, .inl tng6)), (tn_9, .inl (k 0, 4, .inl tng9)), (tn_10, .inl (k 0, 4, .inl tng10))]) [0, 3, 4, 1, 5, 6, 7, 8, 2, 9, 10] (by decide +kernel) rfl
      exact W.vret hx hb hr (fun tZ ht hW => ⟨⟨(o_5, o_6, o_7, g_26), rfl, hw_9, by rw [ht]; exact hP9, va_K.moved hW.alike hK, hD9⟩, hS.F ht⟩) hS.2.2 dX3_weighLanes_93
    · skip
      have zh_23 : ¬ x_16.toInt = 0 := z_ne h_23
      refine lv_iload hx hb dX3_weighLanes_67 (lv_at hl 0 rfl) ?_
      refine lv_bipush (v := 10) hx hb dX3_weighLanes_69 (by decide) ?_
      refine lv_icmp_ge (tgt := 81) hx hb dX3_weighLanes_71 (by decide) (fun h_27 => ?_) (fun h_27 => ?_)
      · skip
        have zh_27 : 10 ≤ r_20.toInt := z_le h_27
        refine lv_aload_n hx hb dX3_weighLanes_81 rfl (lv_at hl 3 rfl) ?_
        refine va_get (D := D) (ci := 3) (v := .ref ob_1) (C := RX3) (T := TX3) (N := 2) hx hb hts iT_X3 hown hK hP 0 rfl rfl 1 (by decide) (hts _ tw_2_164) (fun _ h9 => h9) rfl dX3_weighLanes_82 ?_
        refine lv_iload hx hb dX3_weighLanes_85 (lv_at hl 2 rfl) ?_
        refine lv_dup2_11 hx hb dX3_weighLanes_87 rfl rfl ?_
        refine va_lald hx hb hK hP 1 2 rfl rfl (z_in (by omega) (by omega)) dX3_weighLanes_88 ?_
        refine lv_topl (fun x_28 ex_28 => ?_)
        refine lv_lload hx hb dX3_weighLanes_89 (lv_at hl 8 rfl) ?_
        refine lv_ladd hx hb dX3_weighLanes_91 ?_
        refine lv_topl (fun x_29 ex_29 => ?_)
        refine va_last hx hb hK hP hD hS 1 2 rfl rfl (z_in (by omega) (by omega)) dX3_weighLanes_92 (fun H locs hP hD hS => ?_)
        obtain ⟨g_30, eg_30⟩ : ∃ z : Nat → Int64, vp_updL obg1 x_10.toNatClampNeg x_29 = z := ⟨_, rfl⟩
        have hP : va_P D vwCl [(ob, .inr (3, [.ref oba, .ref ob_1])), (ob_1, .inl (k 2, 1000, .inr (.inl (vp_updL obg1 x_10.toNatClampNeg x_29)))), (tn_6, .inl (k 0, 10, .inl tng6)), (oba, .inr (1, [.ref oba_0, .int o_5, .int o_6])), (oba_0, .inl (k 0, 8, .inl o_7)), (tn, .inr (10, [.int tnv0, .int tnv1, .int tnv2, .ref tn_3, .ref tn_4, .ref tn_5, .ref tn_6, .int tnv7, .int tnv8, .ref tn_9, .ref tn_10, .int tnv11, .ref tn_12, .ref tn_13, .ref tn_14, .ref tn_15, .int tnv16, .ref tn_17, .ref tn_18, .ref tnt])), (tn_3, .inl (k 0, 10, .inl tng3)), (tn_4, .inl (k 0, 10, .inl tng4)), (tn_5, .inl (k 0, 10, .inl tng5)), (tn_9, .inl (k 0, 4, .inl tng9)), (tn_10, .inl (k 0, 4, .inl tng10))] H := hP
        have hD : va_D A [(ob, .inr (3, [.ref oba, .ref ob_1])), (ob_1, .inl (k 2, 1000, .inr (.inl (vp_updL obg1 x_10.toNatClampNeg x_29)))), (tn_6, .inl (k 0, 10, .inl tng6)), (oba, .inr (1, [.ref oba_0, .int o_5, .int o_6])), (oba_0, .inl (k 0, 8, .inl o_7)), (tn, .inr (10, [.int tnv0, .int tnv1, .int tnv2, .ref tn_3, .ref tn_4, .ref tn_5, .ref tn_6, .int tnv7, .int tnv8, .ref tn_9, .ref tn_10, .int tnv11, .ref tn_12, .ref tn_13, .ref tn_14, .ref tn_15, .int tnv16, .ref tn_17, .ref tn_18, .ref tnt])), (tn_3, .inl (k 0, 10, .inl tng3)), (tn_4, .inl (k 0, 10, .inl tng4)), (tn_5, .inl (k 0, 10, .inl tng5)), (tn_9, .inl (k 0, 4, .inl tng9)), (tn_10, .inl (k 0, 4, .inl tng10))] := hD
        rw [eg_30] at hP hD
        obtain ⟨hP9, hD9⟩ := sub2 hP hD (ws' := [(ob, .inr (3, [.ref oba, .ref ob_1])), (oba, .inr (1, [.ref oba_0, .int o_5, .int o_6])), (oba_0, .inl (k 0, 8, .inl o_7)), (ob_1, .inl (k 2, 1000, .inr (.inl g_30))), (tn, .inr (10, [.int tnv0, .int tnv1, .int tnv2, .ref tn_3, .ref tn_4, .ref tn_5, .ref tn_6, .int tnv7, .int tnv8, .ref tn_9, .ref tn_10, .int tnv11, .ref tn_12, .ref tn_13, .ref tn_14, .ref tn_15, .int tnv16, .ref tn_17, .ref tn_18, .ref tnt])), (tn_3, .inl (k 0, 10, .inl tng3)), (tn_4, .inl (k 0, 10, .inl tng4)), (tn_5, .inl (k 0, 10, .inl tng5)), (tn_6, .inl (k 0, 10, .inl tng6)), (tn_9, .inl (k 0, 4, .inl tng9)), (tn_10, .inl (k 0, 4, .inl tng10))]) [0, 3, 4, 1, 5, 6, 7, 8, 2, 9, 10] (by decide +kernel) rfl
        exact W.vret hx hb hr (fun tZ ht hW => ⟨⟨(o_5, o_6, o_7, g_30), rfl, hw_9, by rw [ht]; exact hP9, va_K.moved hW.alike hK, hD9⟩, hS.F ht⟩) hS.2.2 dX3_weighLanes_93
      · skip
        have zh_27 : r_20.toInt < 10 := z_nle h_27
        refine lv_iload hx hb dX3_weighLanes_74 (lv_at hl 9 rfl) ?_
        refine lv_bipush (v := 10) hx hb dX3_weighLanes_76 (by decide) ?_
        refine lv_icmp_lt (tgt := 94) hx hb dX3_weighLanes_78 (by decide) (fun _ => ?_) (fun c9 => absurd c9 (by decide))
        refine lv_iconst (v := 1) hx hb dX3_weighLanes_94 (by decide) ?_
        refine lv_iload hx hb dX3_weighLanes_95 (lv_at hl 0 rfl) ?_
        refine lv_ishl hx hb dX3_weighLanes_97 ?_
        refine lv_topi (fun x_31 ex_31 => ?_)
        have zx_31 : 1 ≤ x_31.toInt ∧ x_31.toInt ≤ 512 := by rw [ex_31]; exact z_shl1 9 512 rfl (by decide) (by omega) (by omega)
        refine lv_istore (lv' := [(11, .int x_31), (10, .int r_20), (9, .int x_16), (8, .int x_10), (0, .ref ob), (1, .ref tn), (2, .int p1), (3, .int p2), (4, .int p3), (5, .long p4), (7, .int 6)]) hx hb dX3_weighLanes_98 hl (by decide) rfl (fun ls hl => ?_)
        refine lv_lload hx hb dX3_weighLanes_100 (lv_at hl 9 rfl) ?_
        refine lv_ldc2 (v := 10) hx hb hown (hts _ tw_5_159) dX3_weighLanes_102 ?_
        refine lv_ldiv hx hb dX3_weighLanes_105 (by decide) ?_
        refine lv_topl (fun x_32 ex_32 => ?_)
        refine lv_lstore (lv' := [(12, .long x_32), (11, .int x_31), (10, .int r_20), (9, .int x_16), (8, .int x_10), (0, .ref ob), (1, .ref tn), (2, .int p1), (3, .int p2), (4, .int p3), (5, .long p4), (7, .int 6)]) hx hb dX3_weighLanes_106 hl (by decide) rfl (fun ls hl => ?_)
        refine lv_aload_n hx hb dX3_weighLanes_108 rfl (lv_at hl 5 rfl) ?_
        refine lv_aload_n hx hb dX3_weighLanes_109 rfl (lv_at hl 6 rfl) ?_
        refine lv_iload_n hx hb dX3_weighLanes_110 rfl (lv_at hl 7 rfl) ?_
        refine lv_iload_n hx hb dX3_weighLanes_111 rfl (lv_at hl 8 rfl) ?_
        refine lv_iload hx hb dX3_weighLanes_112 (lv_at hl 1 rfl) ?_
        refine lv_ior hx hb dX3_weighLanes_114 ?_
        refine lv_topi (fun x_33 ex_33 => ?_)
        refine lv_iload hx hb dX3_weighLanes_115 (lv_at hl 9 rfl) ?_
        refine lv_lload hx hb dX3_weighLanes_117 (lv_at hl 0 rfl) ?_
        refine lv_bipush (v := 10) hx hb dX3_weighLanes_119 (by decide) ?_
        refine lv_aload_n hx hb dX3_weighLanes_121 rfl (lv_at hl 6 rfl) ?_
        refine va_get (D := D) (ci := 10) (v := .ref tn_6) (C := RX10) (T := TX10) (N := 20) hx hb hts iT_X10 hown hK hP 5 rfl rfl 6 (by decide) (hts _ tw_1_98) (fun _ h9 => h9) rfl dX3_weighLanes_122 ?_
        refine lv_iload hx hb dX3_weighLanes_125 (lv_at hl 2 rfl) ?_
        refine va_iald hx hb hK hP 2 0 rfl rfl (z_in (by omega) (by omega)) dX3_weighLanes_127 ?_
        refine lv_topi (fun x_34 ex_34 => ?_)
        have zx_34r0 : 0 ≤ x_34.toInt ∧ x_34.toInt ≤ 10 := by rw [ex_34]; exact PR.ld hp_tng6_0 (by omega) (by omega) (by omega)
        refine lv_isub hx hb dX3_weighLanes_128 ?_
        refine lv_topi (fun x_35 ex_35 => ?_)
        have zx_35 : x_35.toInt = 10 - x_34.toInt := by rw [ex_35]; exact z_sub rfl rfl (by omega) (by omega)
        refine lv_i2l (v := x_35.toInt64) hx hb dX3_weighLanes_129 rfl ?_
        refine lv_lmul hx hb dX3_weighLanes_130 ?_
        refine lv_topl (fun x_36 ex_36 => ?_)
        refine lv_iload hx hb dX3_weighLanes_131 (lv_at hl 11 rfl) ?_
        refine lv_iconst (v := 1) hx hb dX3_weighLanes_133 (by decide) ?_
        refine lv_iadd hx hb dX3_weighLanes_134 ?_
        refine lv_topi (fun x_37 ex_37 => ?_)
        obtain rfl : x_37 = 7 := ex_37.trans (by decide)
        obtain ⟨hPc, hDc, hFc⟩ := sub3 hP hD hS hA (ws' := [(ob, .inr (3, [.ref oba, .ref ob_1])), (oba, .inr (1, [.ref oba_0, .int o_5, .int o_6])), (oba_0, .inl (k 0, 8, .inl o_7)), (ob_1, .inl (k 2, 1000, .inr (.inl obg1))), (tn, .inr (10, [.int tnv0, .int tnv1, .int tnv2, .ref tn_3, .ref tn_4, .ref tn_5, .ref tn_6, .int tnv7, .int tnv8, .ref tn_9, .ref tn_10, .int tnv11, .ref tn_12, .ref tn_13, .ref tn_14, .ref tn_15, .int tnv16, .ref tn_17, .ref tn_18, .ref tnt])), (tn_3, .inl (k 0, 10, .inl tng3)), (tn_4, .inl (k 0, 10, .inl tng4)), (tn_5, .inl (k 0, 10, .inl tng5)), (tn_6, .inl (k 0, 10, .inl tng6)), (tn_9, .inl (k 0, 4, .inl tng9)), (tn_10, .inl (k 0, 4, .inl tng10))]) [0, 3, 4, 1, 5, 6, 7, 8, 2, 9, 10] (by decide +kernel) rfl
        refine va_callv (va_runV (C := RX3) (As := [.ref tn, .int p1, .int x_33, .int p3, .long x_36, .int 7]) (rest := []) ⟨hx, hb, hml, hown, hts⟩ (c_X3_weighLanes_3 l D k ob tn p1 x_33 p3 x_36 oba ob_1 oba_0 o_5 o_6 o_7 obg1 tnv0 tnv1 tnv2 tn_3 tn_4 tn_5 tn_6 tnv7 tnv8 tn_9 tn_10 tnv11 tn_12 tn_13 tn_14 tn_15 tnv16 tn_17 tn_18 tnt tng3 tng4 tng5 tng6 tng9 tng10 H.size (show 0 ≤ p1.toInt ∧ p1.toInt ≤ 7 from by omega) hw_9 (show 0 ≤ tnv0.toInt ∧ tnv0.toInt ≤ 8 from by omega) (show 0 ≤ tnv2.toInt ∧ tnv2.toInt ≤ 10 from by omega) (show 0 ≤ tnv8.toInt ∧ tnv8.toInt ≤ 4 from by omega) (show 0 ≤ tnv11.toInt ∧ tnv11.toInt ≤ 6 from by omega) (show 0 ≤ tnv16.toInt ∧ tnv16.toInt ≤ 2 from by omega) hp_tng3_0 hp_tng4_0 hp_tng5_0 hp_tng6_0 hp_tng9_0 hp_tng10_0) (cwV 6 hts (gV tw_5_151 tw_5_153 tw_p_34 tw_1_12 tw_5_154) rfl rfl rfl hdV_X3_weighLanes ⟨Nat.le_of_ble_eq_true rfl, Nat.le_of_ble_eq_true rfl⟩) (cz_V hK hPc hDc hN (ci := 3) (q0 := 0) rfl rfl [.ref tn, .int p1, .int x_33, .int p3, .long x_36, .int 7]) rfl rfl hl.1 rfl (lv_room (Nat.le_of_ble_eq_true rfl)) dX3_weighLanes_135 ⟨Nat.le_of_ble_eq_true rfl, Nat.le_of_ble_eq_true rfl⟩) hS (fun q _ h => hFc q h) hFc (fun uZ tZ H1 locs ht hvm hw hB hz1 hk1 hS => ?_)
        obtain ⟨o_39, o_40, o_41, o_42⟩ := uZ
        obtain ⟨hP1, hK1, hD1⟩ := hB
        rw [ht] at hP1
        obtain ⟨hP, hD⟩ := va_join (wr := []) (w1 := [(ob, .inr (3, [.ref oba, .ref ob_1])), (oba, .inr (1, [.ref oba_0, .int o_39, .int o_40])), (oba_0, .inl (k 0, 8, .inl o_41)), (ob_1, .inl (k 2, 1000, .inr (.inl o_42))), (tn, .inr (10, [.int tnv0, .int tnv1, .int tnv2, .ref tn_3, .ref tn_4, .ref tn_5, .ref tn_6, .int tnv7, .int tnv8, .ref tn_9, .ref tn_10, .int tnv11, .ref tn_12, .ref tn_13, .ref tn_14, .ref tn_15, .int tnv16, .ref tn_17, .ref tn_18, .ref tnt])), (tn_3, .inl (k 0, 10, .inl tng3)), (tn_4, .inl (k 0, 10, .inl tng4)), (tn_5, .inl (k 0, 10, .inl tng5)), (tn_6, .inl (k 0, 10, .inl tng6)), (tn_9, .inl (k 0, 4, .inl tng9)), (tn_10, .inl (k 0, 4, .inl tng10))]) hP hD [0, 3, 4, 1, 5, 6, 7, 8, 2, 9, 10] [] rfl rfl (by decide +kernel) (by decide +kernel) hk1 hFc hP1 hD1
        clear hK1 hP1 hD1 hPc hDc hFc
        clear hk1 hz1 ht hvm
        have hP : va_P D vwCl [(ob, .inr (3, [.ref oba, .ref ob_1])), (oba, .inr (1, [.ref oba_0, .int o_39, .int o_40])), (oba_0, .inl (k 0, 8, .inl o_41)), (ob_1, .inl (k 2, 1000, .inr (.inl o_42))), (tn, .inr (10, [.int tnv0, .int tnv1, .int tnv2, .ref tn_3, .ref tn_4, .ref tn_5, .ref tn_6, .int tnv7, .int tnv8, .ref tn_9, .ref tn_10, .int tnv11, .ref tn_12, .ref tn_13, .ref tn_14, .ref tn_15, .int tnv16, .ref tn_17, .ref tn_18, .ref tnt])), (tn_3, .inl (k 0, 10, .inl tng3)), (tn_4, .inl (k 0, 10, .inl tng4)), (tn_5, .inl (k 0, 10, .inl tng5)), (tn_6, .inl (k 0, 10, .inl tng6)), (tn_9, .inl (k 0, 4, .inl tng9)), (tn_10, .inl (k 0, 4, .inl tng10))] H1 := hP
        have hD : va_D A [(ob, .inr (3, [.ref oba, .ref ob_1])), (oba, .inr (1, [.ref oba_0, .int o_39, .int o_40])), (oba_0, .inl (k 0, 8, .inl o_41)), (ob_1, .inl (k 2, 1000, .inr (.inl o_42))), (tn, .inr (10, [.int tnv0, .int tnv1, .int tnv2, .ref tn_3, .ref tn_4, .ref tn_5, .ref tn_6, .int tnv7, .int tnv8, .ref tn_9, .ref tn_10, .int tnv11, .ref tn_12, .ref tn_13, .ref tn_14, .ref tn_15, .int tnv16, .ref tn_17, .ref tn_18, .ref tnt])), (tn_3, .inl (k 0, 10, .inl tng3)), (tn_4, .inl (k 0, 10, .inl tng4)), (tn_5, .inl (k 0, 10, .inl tng5)), (tn_6, .inl (k 0, 10, .inl tng6)), (tn_9, .inl (k 0, 4, .inl tng9)), (tn_10, .inl (k 0, 4, .inl tng10))] := hD
        generalize H1 = H at hP hS ⊢
        have hw_43 : (PR 8 1 0 0 1000000 o_41) := hw
        have hw_44 := hw_43
        clear hw
        refine lv_aload_n hx hb dX3_weighLanes_138 rfl (lv_at hl 5 rfl) ?_
        refine lv_aload_n hx hb dX3_weighLanes_139 rfl (lv_at hl 6 rfl) ?_
        refine lv_iload_n hx hb dX3_weighLanes_140 rfl (lv_at hl 7 rfl) ?_
        refine lv_iload_n hx hb dX3_weighLanes_141 rfl (lv_at hl 8 rfl) ?_
        refine lv_iload hx hb dX3_weighLanes_142 (lv_at hl 1 rfl) ?_
        refine lv_ior hx hb dX3_weighLanes_144 ?_
        refine lv_topi (fun x_45 ex_45 => ?_)
        obtain rfl : x_33 = x_45 := ex_33.trans ex_45.symm
        refine lv_iload hx hb dX3_weighLanes_145 (lv_at hl 9 rfl) ?_
        refine lv_iload hx hb dX3_weighLanes_147 (lv_at hl 1 rfl) ?_
        refine lv_ior hx hb dX3_weighLanes_149 ?_
        refine lv_topi (fun x_46 ex_46 => ?_)
        have zrp3 := z_rng p3
        refine lv_lload hx hb dX3_weighLanes_150 (lv_at hl 0 rfl) ?_
        refine lv_aload_n hx hb dX3_weighLanes_152 rfl (lv_at hl 6 rfl) ?_
        refine va_get (D := D) (ci := 10) (v := .ref tn_6) (C := RX10) (T := TX10) (N := 20) hx hb hts iT_X10 hown hK hP 4 rfl rfl 6 (by decide) (hts _ tw_1_98) (fun _ h9 => h9) rfl dX3_weighLanes_153 ?_
        refine lv_iload hx hb dX3_weighLanes_156 (lv_at hl 2 rfl) ?_
        refine va_iald hx hb hK hP 8 0 rfl rfl (z_in (by omega) (by omega)) dX3_weighLanes_158 ?_
        refine lv_topi (fun x_47 ex_47 => ?_)
        obtain rfl : x_34 = x_47 := ex_34.trans ex_47.symm
        refine lv_i2l (v := x_34.toInt64) hx hb dX3_weighLanes_159 rfl ?_
        refine lv_lmul hx hb dX3_weighLanes_160 ?_
        refine lv_topl (fun x_48 ex_48 => ?_)
        refine lv_iload hx hb dX3_weighLanes_161 (lv_at hl 11 rfl) ?_
        refine lv_iconst (v := 1) hx hb dX3_weighLanes_163 (by decide) ?_
        refine lv_iadd hx hb dX3_weighLanes_164 ?_
        refine lv_topi (fun x_49 ex_49 => ?_)
        obtain rfl : x_49 = 7 := ex_49.trans (by decide)
        obtain ⟨hPc, hDc, hFc⟩ := sub3 hP hD hS hA (ws' := [(ob, .inr (3, [.ref oba, .ref ob_1])), (oba, .inr (1, [.ref oba_0, .int o_39, .int o_40])), (oba_0, .inl (k 0, 8, .inl o_41)), (ob_1, .inl (k 2, 1000, .inr (.inl o_42))), (tn, .inr (10, [.int tnv0, .int tnv1, .int tnv2, .ref tn_3, .ref tn_4, .ref tn_5, .ref tn_6, .int tnv7, .int tnv8, .ref tn_9, .ref tn_10, .int tnv11, .ref tn_12, .ref tn_13, .ref tn_14, .ref tn_15, .int tnv16, .ref tn_17, .ref tn_18, .ref tnt])), (tn_3, .inl (k 0, 10, .inl tng3)), (tn_4, .inl (k 0, 10, .inl tng4)), (tn_5, .inl (k 0, 10, .inl tng5)), (tn_6, .inl (k 0, 10, .inl tng6)), (tn_9, .inl (k 0, 4, .inl tng9)), (tn_10, .inl (k 0, 4, .inl tng10))]) [0, 1, 2, 3, 4, 5, 6, 7, 8, 9, 10] (by decide +kernel) rfl
        refine va_callv (va_runV (C := RX3) (As := [.ref tn, .int p1, .int x_33, .int x_46, .long x_48, .int 7]) (rest := []) ⟨hx, hb, hml, hown, hts⟩ (c_X3_weighLanes_3 l D k ob tn p1 x_33 x_46 x_48 oba ob_1 oba_0 o_39 o_40 o_41 o_42 tnv0 tnv1 tnv2 tn_3 tn_4 tn_5 tn_6 tnv7 tnv8 tn_9 tn_10 tnv11 tn_12 tn_13 tn_14 tn_15 tnv16 tn_17 tn_18 tnt tng3 tng4 tng5 tng6 tng9 tng10 H.size (show 0 ≤ p1.toInt ∧ p1.toInt ≤ 7 from by omega) hw_44 (show 0 ≤ tnv0.toInt ∧ tnv0.toInt ≤ 8 from by omega) (show 0 ≤ tnv2.toInt ∧ tnv2.toInt ≤ 10 from by omega) (show 0 ≤ tnv8.toInt ∧ tnv8.toInt ≤ 4 from by omega) (show 0 ≤ tnv11.toInt ∧ tnv11.toInt ≤ 6 from by omega) (show 0 ≤ tnv16.toInt ∧ tnv16.toInt ≤ 2 from by omega) hp_tng3_0 hp_tng4_0 hp_tng5_0 hp_tng6_0 hp_tng9_0 hp_tng10_0) (cwV 6 hts (gV tw_5_151 tw_5_153 tw_p_34 tw_1_12 tw_5_154) rfl rfl rfl hdV_X3_weighLanes ⟨Nat.le_of_ble_eq_true rfl, Nat.le_of_ble_eq_true rfl⟩) (cz_V hK hPc hDc hN (ci := 3) (q0 := 0) rfl rfl [.ref tn, .int p1, .int x_33, .int x_46, .long x_48, .int 7]) rfl rfl hl.1 rfl (lv_room (Nat.le_of_ble_eq_true rfl)) dX3_weighLanes_165 ⟨Nat.le_of_ble_eq_true rfl, Nat.le_of_ble_eq_true rfl⟩) hS (fun q _ h => hFc q h) hFc (fun uZ tZ H1 locs ht hvm hw hB hz1 hk1 hS => ?_)
        obtain ⟨o_51, o_52, o_53, o_54⟩ := uZ
        obtain ⟨hP1, hK1, hD1⟩ := hB
        rw [ht] at hP1
        obtain ⟨hP, hD⟩ := va_join (wr := []) (w1 := [(ob, .inr (3, [.ref oba, .ref ob_1])), (oba, .inr (1, [.ref oba_0, .int o_51, .int o_52])), (oba_0, .inl (k 0, 8, .inl o_53)), (ob_1, .inl (k 2, 1000, .inr (.inl o_54))), (tn, .inr (10, [.int tnv0, .int tnv1, .int tnv2, .ref tn_3, .ref tn_4, .ref tn_5, .ref tn_6, .int tnv7, .int tnv8, .ref tn_9, .ref tn_10, .int tnv11, .ref tn_12, .ref tn_13, .ref tn_14, .ref tn_15, .int tnv16, .ref tn_17, .ref tn_18, .ref tnt])), (tn_3, .inl (k 0, 10, .inl tng3)), (tn_4, .inl (k 0, 10, .inl tng4)), (tn_5, .inl (k 0, 10, .inl tng5)), (tn_6, .inl (k 0, 10, .inl tng6)), (tn_9, .inl (k 0, 4, .inl tng9)), (tn_10, .inl (k 0, 4, .inl tng10))]) hP hD [0, 1, 2, 3, 4, 5, 6, 7, 8, 9, 10] [] rfl rfl (by decide +kernel) (by decide +kernel) hk1 hFc hP1 hD1
        clear hK1 hP1 hD1 hPc hDc hFc
        clear hk1 hz1 ht hvm
        have hP : va_P D vwCl [(ob, .inr (3, [.ref oba, .ref ob_1])), (oba, .inr (1, [.ref oba_0, .int o_51, .int o_52])), (oba_0, .inl (k 0, 8, .inl o_53)), (ob_1, .inl (k 2, 1000, .inr (.inl o_54))), (tn, .inr (10, [.int tnv0, .int tnv1, .int tnv2, .ref tn_3, .ref tn_4, .ref tn_5, .ref tn_6, .int tnv7, .int tnv8, .ref tn_9, .ref tn_10, .int tnv11, .ref tn_12, .ref tn_13, .ref tn_14, .ref tn_15, .int tnv16, .ref tn_17, .ref tn_18, .ref tnt])), (tn_3, .inl (k 0, 10, .inl tng3)), (tn_4, .inl (k 0, 10, .inl tng4)), (tn_5, .inl (k 0, 10, .inl tng5)), (tn_6, .inl (k 0, 10, .inl tng6)), (tn_9, .inl (k 0, 4, .inl tng9)), (tn_10, .inl (k 0, 4, .inl tng10))] H1 := hP
        have hD : va_D A [(ob, .inr (3, [.ref oba, .ref ob_1])), (oba, .inr (1, [.ref oba_0, .int o_51, .int o_52])), (oba_0, .inl (k 0, 8, .inl o_53)), (ob_1, .inl (k 2, 1000, .inr (.inl o_54))), (tn, .inr (10, [.int tnv0, .int tnv1, .int tnv2, .ref tn_3, .ref tn_4, .ref tn_5, .ref tn_6, .int tnv7, .int tnv8, .ref tn_9, .ref tn_10, .int tnv11, .ref tn_12, .ref tn_13, .ref tn_14, .ref tn_15, .int tnv16, .ref tn_17, .ref tn_18, .ref tnt])), (tn_3, .inl (k 0, 10, .inl tng3)), (tn_4, .inl (k 0, 10, .inl tng4)), (tn_5, .inl (k 0, 10, .inl tng5)), (tn_6, .inl (k 0, 10, .inl tng6)), (tn_9, .inl (k 0, 4, .inl tng9)), (tn_10, .inl (k 0, 4, .inl tng10))] := hD
        generalize H1 = H at hP hS ⊢
        have hw_55 : (PR 8 1 0 0 1000000 o_53) := hw
        have hw_56 := hw_55
        clear hw
        obtain ⟨hP9, hD9⟩ := sub2 hP hD (ws' := [(ob, .inr (3, [.ref oba, .ref ob_1])), (oba, .inr (1, [.ref oba_0, .int o_51, .int o_52])), (oba_0, .inl (k 0, 8, .inl o_53)), (ob_1, .inl (k 2, 1000, .inr (.inl o_54))), (tn, .inr (10, [.int tnv0, .int tnv1, .int tnv2, .ref tn_3, .ref tn_4, .ref tn_5, .ref tn_6, .int tnv7, .int tnv8, .ref tn_9, .ref tn_10, .int tnv11, .ref tn_12, .ref tn_13, .ref tn_14, .ref tn_15, .int tnv16, .ref tn_17, .ref tn_18, .ref tnt])), (tn_3, .inl (k 0, 10, .inl tng3)), (tn_4, .inl (k 0, 10, .inl tng4)), (tn_5, .inl (k 0, 10, .inl tng5)), (tn_6, .inl (k 0, 10, .inl tng6)), (tn_9, .inl (k 0, 4, .inl tng9)), (tn_10, .inl (k 0, 4, .inl tng10))]) [0, 1, 2, 3, 4, 5, 6, 7, 8, 9, 10] (by decide +kernel) rfl
        exact W.vret hx hb hr (fun tZ ht hW => ⟨⟨(o_51, o_52, o_53, o_54), rfl, hw_56, by rw [ht]; exact hP9, va_K.moved hW.alike hK, hD9⟩, hS.F ht⟩) hS.2.2 dX3_weighLanes_168
  · skip
    have zh_11 : 1000 ≤ x_10.toInt := z_nlt h_11
    obtain ⟨hP9, hD9⟩ := sub2 hP hD (ws' := [(ob, .inr (3, [.ref oba, .ref ob_1])), (oba, .inr (1, [.ref oba_0, .int o_5, .int o_6])), (oba_0, .inl (k 0, 8, .inl o_7)), (ob_1, .inl (k 2, 1000, .inr (.inl obg1))), (tn, .inr (10, [.int tnv0, .int tnv1, .int tnv2, .ref tn_3, .ref tn_4, .ref tn_5, .ref tn_6, .int tnv7, .int tnv8, .ref tn_9, .ref tn_10, .int tnv11, .ref tn_12, .ref tn_13, .ref tn_14, .ref tn_15, .int tnv16, .ref tn_17, .ref tn_18, .ref tnt])), (tn_3, .inl (k 0, 10, .inl tng3)), (tn_4, .inl (k 0, 10, .inl tng4)), (tn_5, .inl (k 0, 10, .inl tng5)), (tn_6, .inl (k 0, 10, .inl tng6)), (tn_9, .inl (k 0, 4, .inl tng9)), (tn_10, .inl (k 0, 4, .inl tng10))]) [0, 3, 4, 1, 5, 6, 7, 8, 2, 9, 10] (by decide +kernel) rfl
    exact W.vret hx hb hr (fun tZ ht hW => ⟨⟨(o_5, o_6, o_7, obg1), rfl, hw_9, by rw [ht]; exact hP9, va_K.moved hW.alike hK, hD9⟩, hS.F ht⟩) hS.2.2 dX3_weighLanes_33
set_option maxHeartbeats 4000000 in
set_option maxRecDepth 100000 in
theorem c_X3_weighLanes_5 (l : Launch) (D : va_G) (k : Nat → ClassId) (ob : Nat) (tn : Nat) (p1 : Int32) (p2 : Int32) (p3 : Int32) (p4 : Int64) (oba : Nat) (ob_1 : Nat) (oba_0 : Nat) (obav1 : Int32) (obav2 : Int32) (obag0 : Nat → Int32) (obg1 : Nat → Int64) (tnv0 : Int32) (tnv1 : Int32) (tnv2 : Int32) (tn_3 : Nat) (tn_4 : Nat) (tn_5 : Nat) (tn_6 : Nat) (tnv7 : Int32) (tnv8 : Int32) (tn_9 : Nat) (tn_10 : Nat) (tnv11 : Int32) (tn_12 : Nat) (tn_13 : Nat) (tn_14 : Nat) (tn_15 : Nat) (tnv16 : Int32) (tn_17 : Nat) (tn_18 : Nat) (tnt : Nat) (tng3 : Nat → Int32) (tng4 : Nat → Int32) (tng5 : Nat → Int32) (tng6 : Nat → Int32) (tng9 : Nat → Int32) (tng10 : Nat → Int32) (sz : Nat) (h_p1 : 0 ≤ p1.toInt ∧ p1.toInt ≤ 7) (hp_obag0_0 : PR 8 1 0 0 1000000 obag0) (h_tnv0 : 0 ≤ tnv0.toInt ∧ tnv0.toInt ≤ 8) (h_tnv2 : 0 ≤ tnv2.toInt ∧ tnv2.toInt ≤ 10) (h_tnv8 : 0 ≤ tnv8.toInt ∧ tnv8.toInt ≤ 4) (h_tnv11 : 0 ≤ tnv11.toInt ∧ tnv11.toInt ≤ 6) (h_tnv16 : 0 ≤ tnv16.toInt ∧ tnv16.toInt ≤ 2) (hp_tng3_0 : PR 10 1 0 0 7 tng3) (hp_tng4_0 : PR 10 1 0 0 7 tng4) (hp_tng5_0 : PR 10 1 0 0 60 tng5) (hp_tng6_0 : PR 10 1 0 0 10 tng6) (hp_tng9_0 : PR 4 1 0 0 7 tng9) (hp_tng10_0 : PR 4 1 0 0 99 tng10) : Met l yX3_weighLanes (ww yX3_weighLanes cX3_weighLanes 14 none) ({ frames := 9, cells := 0, slots := 0, locals := 265 }) (Pre0 D k [(ob, .inr (3, [.ref oba, .ref ob_1])), (oba, .inr (1, [.ref oba_0, .int obav1, .int obav2])), (oba_0, .inl (k 0, 8, .inl obag0)), (ob_1, .inl (k 2, 1000, .inr (.inl obg1))), (tn, .inr (10, [.int tnv0, .int tnv1, .int tnv2, .ref tn_3, .ref tn_4, .ref tn_5, .ref tn_6, .int tnv7, .int tnv8, .ref tn_9, .ref tn_10, .int tnv11, .ref tn_12, .ref tn_13, .ref tn_14, .ref tn_15, .int tnv16, .ref tn_17, .ref tn_18, .ref tnt])), (tn_3, .inl (k 0, 10, .inl tng3)), (tn_4, .inl (k 0, 10, .inl tng4)), (tn_5, .inl (k 0, 10, .inl tng5)), (tn_6, .inl (k 0, 10, .inl tng6)), (tn_9, .inl (k 0, 4, .inl tng9)), (tn_10, .inl (k 0, 4, .inl tng10))] sz [.ref ob, .ref tn, .int p1, .int p2, .int p3, .long p4, .int 5]) (va_Qv (fun (u : Int32 × Int32 × (Nat → Int32) × (Nat → Int64)) => match u with | (obav1z, obav2z, obag0z, obg1z) => (PR 8 1 0 0 1000000 obag0z)) (fun (u : Int32 × Int32 × (Nat → Int32) × (Nat → Int64)) tZ => match u with | (obav1z, obav2z, obag0z, obg1z) => Bw D k (va_A [(ob, .inr (3, [.ref oba, .ref ob_1])), (oba, .inr (1, [.ref oba_0, .int obav1, .int obav2])), (oba_0, .inl (k 0, 8, .inl obag0)), (ob_1, .inl (k 2, 1000, .inr (.inl obg1))), (tn, .inr (10, [.int tnv0, .int tnv1, .int tnv2, .ref tn_3, .ref tn_4, .ref tn_5, .ref tn_6, .int tnv7, .int tnv8, .ref tn_9, .ref tn_10, .int tnv11, .ref tn_12, .ref tn_13, .ref tn_14, .ref tn_15, .int tnv16, .ref tn_17, .ref tn_18, .ref tnt])), (tn_3, .inl (k 0, 10, .inl tng3)), (tn_4, .inl (k 0, 10, .inl tng4)), (tn_5, .inl (k 0, 10, .inl tng5)), (tn_6, .inl (k 0, 10, .inl tng6)), (tn_9, .inl (k 0, 4, .inl tng9)), (tn_10, .inl (k 0, 4, .inl tng10))] sz) [(ob, .inr (3, [.ref oba, .ref ob_1])), (oba, .inr (1, [.ref oba_0, .int obav1z, .int obav2z])), (oba_0, .inl (k 0, 8, .inl obag0z)), (ob_1, .inl (k 2, 1000, .inr (.inl obg1z))), (tn, .inr (10, [.int tnv0, .int tnv1, .int tnv2, .ref tn_3, .ref tn_4, .ref tn_5, .ref tn_6, .int tnv7, .int tnv8, .ref tn_9, .ref tn_10, .int tnv11, .ref tn_12, .ref tn_13, .ref tn_14, .ref tn_15, .int tnv16, .ref tn_17, .ref tn_18, .ref tnt])), (tn_3, .inl (k 0, 10, .inl tng3)), (tn_4, .inl (k 0, 10, .inl tng4)), (tn_5, .inl (k 0, 10, .inl tng5)), (tn_6, .inl (k 0, 10, .inl tng6)), (tn_9, .inl (k 0, 4, .inl tng9)), (tn_10, .inl (k 0, 4, .inl tng10))] tZ) (va_A [(ob, .inr (3, [.ref oba, .ref ob_1])), (oba, .inr (1, [.ref oba_0, .int obav1, .int obav2])), (oba_0, .inl (k 0, 8, .inl obag0)), (ob_1, .inl (k 2, 1000, .inr (.inl obg1))), (tn, .inr (10, [.int tnv0, .int tnv1, .int tnv2, .ref tn_3, .ref tn_4, .ref tn_5, .ref tn_6, .int tnv7, .int tnv8, .ref tn_9, .ref tn_10, .int tnv11, .ref tn_12, .ref tn_13, .ref tn_14, .ref tn_15, .int tnv16, .ref tn_17, .ref tn_18, .ref tnt])), (tn_3, .inl (k 0, 10, .inl tng3)), (tn_4, .inl (k 0, 10, .inl tng4)), (tn_5, .inl (k 0, 10, .inl tng5)), (tn_6, .inl (k 0, 10, .inl tng6)), (tn_9, .inl (k 0, 4, .inl tng9)), (tn_10, .inl (k 0, 4, .inl tng10))] sz)) 0 0 (va_A [(ob, .inr (3, [.ref oba, .ref ob_1])), (oba, .inr (1, [.ref oba_0, .int obav1, .int obav2])), (oba_0, .inl (k 0, 8, .inl obag0)), (ob_1, .inl (k 2, 1000, .inr (.inl obg1))), (tn, .inr (10, [.int tnv0, .int tnv1, .int tnv2, .ref tn_3, .ref tn_4, .ref tn_5, .ref tn_6, .int tnv7, .int tnv8, .ref tn_9, .ref tn_10, .int tnv11, .ref tn_12, .ref tn_13, .ref tn_14, .ref tn_15, .int tnv16, .ref tn_17, .ref tn_18, .ref tnt])), (tn_3, .inl (k 0, 10, .inl tng3)), (tn_4, .inl (k 0, 10, .inl tng4)), (tn_5, .inl (k 0, 10, .inl tng5)), (tn_6, .inl (k 0, 10, .inl tng6)), (tn_9, .inl (k 0, 4, .inl tng9)), (tn_10, .inl (k 0, 4, .inl tng10))] sz) := by
  refine Met.ofW (cc := cX3_weighLanes) (maxL := 14) (ret := none) (by decide +kernel) rfl ?_
  intro p e s m args below meth c s₁ B hml hv
  obtain ⟨rfl, hsz, hP, hK, hD0, hN⟩ := hv
  have hx := B.exec
  have hb := B.bytes
  have hr := B.returns
  have hts : ∀ w ∈ TT, w.before _ s = true := fun w h => atoms_spec (ws := ww yX3_weighLanes cX3_weighLanes 14 none) B.pre w (List.mem_cons_of_mem _ h)
  have hown : s.vm.findClass RX3 = some m.cls := findClass_of_methodNamed B.named
  have hlocks := B.notSynchronized
  subst hsz
  have hD := hD0.self (sz := s.heap.size)
  generalize hAe : va_A [(ob, .inr (3, [.ref oba, .ref ob_1])), (oba, .inr (1, [.ref oba_0, .int obav1, .int obav2])), (oba_0, .inl (k 0, 8, .inl obag0)), (ob_1, .inl (k 2, 1000, .inr (.inl obg1))), (tn, .inr (10, [.int tnv0, .int tnv1, .int tnv2, .ref tn_3, .ref tn_4, .ref tn_5, .ref tn_6, .int tnv7, .int tnv8, .ref tn_9, .ref tn_10, .int tnv11, .ref tn_12, .ref tn_13, .ref tn_14, .ref tn_15, .int tnv16, .ref tn_17, .ref tn_18, .ref tnt])), (tn_3, .inl (k 0, 10, .inl tng3)), (tn_4, .inl (k 0, 10, .inl tng4)), (tn_5, .inl (k 0, 10, .inl tng5)), (tn_6, .inl (k 0, 10, .inl tng6)), (tn_9, .inl (k 0, 4, .inl tng9)), (tn_10, .inl (k 0, 4, .inl tng10))] s.heap.size = A at hD ⊢
  have hA : ∀ q : Nat, s.heap.size ≤ q → A q := fun q h => by rw [← hAe]; exact Or.inr h
  have hS : va_S A s.heap s.heap [] := va_S.rf
  have hl := lv_entry ([.ref ob, .ref tn, .int p1, .int p2, .int p3, .long p4, .int 5]) (n := 14) (Nat.le_of_ble_eq_true rfl)
  rw [lg_entry_eq]
  generalize (lg_sl ([.ref ob, .ref tn, .int p1, .int p2, .int p3, .long p4, .int 5]) ++ List.replicate (14 - (lg_sl ([.ref ob, .ref tn, .int p1, .int p2, .int p3, .long p4, .int 5])).length) Slot.unset).toArray = ls at hl ⊢
  have hl : lv_has ls 14 [(0, .ref ob), (1, .ref tn), (2, .int p1), (3, .int p2), (4, .int p3), (5, .long p4), (7, .int 5)] := hl
  refine lv_aload_n hx hb dX3_weighLanes_0 rfl (lv_at hl 0 rfl) ?_
  refine va_get (D := D) (ci := 3) (v := .ref oba) (C := RX3) (T := TX3) (N := 2) hx hb hts iT_X3 hown hK hP 0 rfl rfl 0 (by decide) (hts _ tw_2_163) (fun _ h9 => h9) rfl dX3_weighLanes_1 ?_
  refine lv_aload_n hx hb dX3_weighLanes_4 rfl (lv_at hl 1 rfl) ?_
  refine lv_aload_n hx hb dX3_weighLanes_5 rfl (lv_at hl 1 rfl) ?_
  obtain ⟨hPc, hDc, hFc⟩ := sub3 hP hD hS hA (ws' := [(tn, .inr (10, [.int tnv0, .int tnv1, .int tnv2, .ref tn_3, .ref tn_4, .ref tn_5, .ref tn_6, .int tnv7, .int tnv8, .ref tn_9, .ref tn_10, .int tnv11, .ref tn_12, .ref tn_13, .ref tn_14, .ref tn_15, .int tnv16, .ref tn_17, .ref tn_18, .ref tnt]))]) [4] (by decide +kernel) rfl
  refine va_calli (va_runV (C := RX10) (As := []) (rest := [.ref tn, .ref oba]) ⟨hx, hb, hml, hown, hts⟩ (c_X10_openLanes l D k tn tnv0 tnv1 tnv2 tn_3 tn_4 tn_5 tn_6 tnv7 tnv8 tn_9 tn_10 tnv11 tn_12 tn_13 tn_14 tn_15 tnv16 tn_17 tn_18 tnt s.heap.size (show 0 ≤ tnv0.toInt ∧ tnv0.toInt ≤ 8 from by omega) (show 0 ≤ tnv2.toInt ∧ tnv2.toInt ≤ 10 from by omega) (show 0 ≤ tnv8.toInt ∧ tnv8.toInt ≤ 4 from by omega) (show 0 ≤ tnv11.toInt ∧ tnv11.toInt ≤ 6 from by omega) (show 0 ≤ tnv16.toInt ∧ tnv16.toInt ≤ 2 from by omega)) (cwV 0 hts (gV tw_5_155 tw_3_180 tw_3_181 tw_1_3 tw_3_182) rfl rfl rfl hdV_X10_openLanes ⟨Nat.le_of_ble_eq_true rfl, Nat.le_of_ble_eq_true rfl⟩) (cz_V hK hPc hDc hN (ci := 10) (q0 := 0) rfl rfl []) rfl rfl hl.1 rfl (lv_room (Nat.le_of_ble_eq_true rfl)) dX3_weighLanes_6 ⟨Nat.le_of_ble_eq_true rfl, Nat.le_of_ble_eq_true rfl⟩) hS (fun q _ h => hFc q h) hFc (fun r_1 uZ tZ H1 locs ht hvm hw hB hz1 hk1 hS => ?_)
  obtain ⟨hP1, hK1, hD1⟩ := hB
  rw [ht] at hP1
  obtain ⟨hP, hD⟩ := va_join (wr := [(ob, .inr (3, [.ref oba, .ref ob_1])), (oba, .inr (1, [.ref oba_0, .int obav1, .int obav2])), (oba_0, .inl (k 0, 8, .inl obag0)), (ob_1, .inl (k 2, 1000, .inr (.inl obg1))), (tn_3, .inl (k 0, 10, .inl tng3)), (tn_4, .inl (k 0, 10, .inl tng4)), (tn_5, .inl (k 0, 10, .inl tng5)), (tn_6, .inl (k 0, 10, .inl tng6)), (tn_9, .inl (k 0, 4, .inl tng9)), (tn_10, .inl (k 0, 4, .inl tng10))]) (w1 := [(tn, .inr (10, [.int tnv0, .int tnv1, .int tnv2, .ref tn_3, .ref tn_4, .ref tn_5, .ref tn_6, .int tnv7, .int tnv8, .ref tn_9, .ref tn_10, .int tnv11, .ref tn_12, .ref tn_13, .ref tn_14, .ref tn_15, .int tnv16, .ref tn_17, .ref tn_18, .ref tnt]))]) hP hD [4] [0, 1, 2, 3, 5, 6, 7, 8, 9, 10] rfl rfl (by decide +kernel) (by decide +kernel) hk1 hFc hP1 hD1
  clear hK1 hP1 hD1 hPc hDc hFc
  clear hk1 hz1 ht hvm
  have hP : va_P D vwCl [(ob, .inr (3, [.ref oba, .ref ob_1])), (oba, .inr (1, [.ref oba_0, .int obav1, .int obav2])), (oba_0, .inl (k 0, 8, .inl obag0)), (ob_1, .inl (k 2, 1000, .inr (.inl obg1))), (tn_3, .inl (k 0, 10, .inl tng3)), (tn_4, .inl (k 0, 10, .inl tng4)), (tn_5, .inl (k 0, 10, .inl tng5)), (tn_6, .inl (k 0, 10, .inl tng6)), (tn_9, .inl (k 0, 4, .inl tng9)), (tn_10, .inl (k 0, 4, .inl tng10)), (tn, .inr (10, [.int tnv0, .int tnv1, .int tnv2, .ref tn_3, .ref tn_4, .ref tn_5, .ref tn_6, .int tnv7, .int tnv8, .ref tn_9, .ref tn_10, .int tnv11, .ref tn_12, .ref tn_13, .ref tn_14, .ref tn_15, .int tnv16, .ref tn_17, .ref tn_18, .ref tnt]))] H1 := hP
  have hD : va_D A [(ob, .inr (3, [.ref oba, .ref ob_1])), (oba, .inr (1, [.ref oba_0, .int obav1, .int obav2])), (oba_0, .inl (k 0, 8, .inl obag0)), (ob_1, .inl (k 2, 1000, .inr (.inl obg1))), (tn_3, .inl (k 0, 10, .inl tng3)), (tn_4, .inl (k 0, 10, .inl tng4)), (tn_5, .inl (k 0, 10, .inl tng5)), (tn_6, .inl (k 0, 10, .inl tng6)), (tn_9, .inl (k 0, 4, .inl tng9)), (tn_10, .inl (k 0, 4, .inl tng10)), (tn, .inr (10, [.int tnv0, .int tnv1, .int tnv2, .ref tn_3, .ref tn_4, .ref tn_5, .ref tn_6, .int tnv7, .int tnv8, .ref tn_9, .ref tn_10, .int tnv11, .ref tn_12, .ref tn_13, .ref tn_14, .ref tn_15, .int tnv16, .ref tn_17, .ref tn_18, .ref tnt]))] := hD
  generalize H1 = H at hP hS ⊢
  have hw_2 : (0 ≤ r_1.toInt ∧ r_1.toInt ≤ 1023) := hw
  have hw_3 := hw_2
  clear hw
  refine lv_iload hx hb dX3_weighLanes_9 (lv_at hl 4 rfl) ?_
  obtain ⟨hPc, hDc, hFc⟩ := sub3 hP hD hS hA (ws' := [(oba, .inr (1, [.ref oba_0, .int obav1, .int obav2])), (oba_0, .inl (k 0, 8, .inl obag0)), (tn, .inr (10, [.int tnv0, .int tnv1, .int tnv2, .ref tn_3, .ref tn_4, .ref tn_5, .ref tn_6, .int tnv7, .int tnv8, .ref tn_9, .ref tn_10, .int tnv11, .ref tn_12, .ref tn_13, .ref tn_14, .ref tn_15, .int tnv16, .ref tn_17, .ref tn_18, .ref tnt])), (tn_3, .inl (k 0, 10, .inl tng3)), (tn_4, .inl (k 0, 10, .inl tng4)), (tn_5, .inl (k 0, 10, .inl tng5)), (tn_9, .inl (k 0, 4, .inl tng9)), (tn_10, .inl (k 0, 4, .inl tng10))]) [1, 2, 10, 4, 5, 6, 8, 9] (by decide +kernel) rfl
  refine va_callv (va_runV (C := RX1) (As := [.ref tn, .int r_1, .int p3]) (rest := []) ⟨hx, hb, hml, hown, hts⟩ (c_X1_fall l D k oba tn r_1 p3 oba_0 obav1 obav2 obag0 tnv0 tnv1 tnv2 tn_3 tn_4 tn_5 tn_6 tnv7 tnv8 tn_9 tn_10 tnv11 tn_12 tn_13 tn_14 tn_15 tnv16 tn_17 tn_18 tnt tng3 tng4 tng5 tng9 tng10 H.size hp_obag0_0 (show 0 ≤ tnv0.toInt ∧ tnv0.toInt ≤ 8 from by omega) (show 0 ≤ tnv2.toInt ∧ tnv2.toInt ≤ 10 from by omega) (show 0 ≤ tnv8.toInt ∧ tnv8.toInt ≤ 4 from by omega) (show 0 ≤ tnv11.toInt ∧ tnv11.toInt ≤ 6 from by omega) (show 0 ≤ tnv16.toInt ∧ tnv16.toInt ≤ 2 from by omega) hp_tng3_0 hp_tng4_0 hp_tng5_0 hp_tng9_0 hp_tng10_0) (cwV 3 hts (gV tw_5_156 tw_3_184 tw_3_185 tw_1_6 tw_3_186) rfl rfl rfl hdV_X1_fall ⟨Nat.le_of_ble_eq_true rfl, Nat.le_of_ble_eq_true rfl⟩) (cz_V hK hPc hDc hN (ci := 1) (q0 := 0) rfl rfl [.ref tn, .int r_1, .int p3]) rfl rfl hl.1 rfl (lv_room (Nat.le_of_ble_eq_true rfl)) dX3_weighLanes_11 ⟨Nat.le_of_ble_eq_true rfl, Nat.le_of_ble_eq_true rfl⟩) hS (fun q _ h => hFc q h) hFc (fun uZ tZ H1 locs ht hvm hw hB hz1 hk1 hS => ?_)
  obtain ⟨o_5, o_6, o_7⟩ := uZ
  obtain ⟨hP1, hK1, hD1⟩ := hB
  rw [ht] at hP1
  obtain ⟨hP, hD⟩ := va_join (wr := [(ob, .inr (3, [.ref oba, .ref ob_1])), (ob_1, .inl (k 2, 1000, .inr (.inl obg1))), (tn_6, .inl (k 0, 10, .inl tng6))]) (w1 := [(oba, .inr (1, [.ref oba_0, .int o_5, .int o_6])), (oba_0, .inl (k 0, 8, .inl o_7)), (tn, .inr (10, [.int tnv0, .int tnv1, .int tnv2, .ref tn_3, .ref tn_4, .ref tn_5, .ref tn_6, .int tnv7, .int tnv8, .ref tn_9, .ref tn_10, .int tnv11, .ref tn_12, .ref tn_13, .ref tn_14, .ref tn_15, .int tnv16, .ref tn_17, .ref tn_18, .ref tnt])), (tn_3, .inl (k 0, 10, .inl tng3)), (tn_4, .inl (k 0, 10, .inl tng4)), (tn_5, .inl (k 0, 10, .inl tng5)), (tn_9, .inl (k 0, 4, .inl tng9)), (tn_10, .inl (k 0, 4, .inl tng10))]) hP hD [1, 2, 10, 4, 5, 6, 8, 9] [0, 3, 7] rfl rfl (by decide +kernel) (by decide +kernel) hk1 hFc hP1 hD1
  clear hK1 hP1 hD1 hPc hDc hFc
  clear hk1 hz1 ht hvm
  have hP : va_P D vwCl [(ob, .inr (3, [.ref oba, .ref ob_1])), (ob_1, .inl (k 2, 1000, .inr (.inl obg1))), (tn_6, .inl (k 0, 10, .inl tng6)), (oba, .inr (1, [.ref oba_0, .int o_5, .int o_6])), (oba_0, .inl (k 0, 8, .inl o_7)), (tn, .inr (10, [.int tnv0, .int tnv1, .int tnv2, .ref tn_3, .ref tn_4, .ref tn_5, .ref tn_6, .int tnv7, .int tnv8, .ref tn_9, .ref tn_10, .int tnv11, .ref tn_12, .ref tn_13, .ref tn_14, .ref tn_15, .int tnv16, .ref tn_17, .ref tn_18, .ref tnt])), (tn_3, .inl (k 0, 10, .inl tng3)), (tn_4, .inl (k 0, 10, .inl tng4)), (tn_5, .inl (k 0, 10, .inl tng5)), (tn_9, .inl (k 0, 4, .inl tng9)), (tn_10, .inl (k 0, 4, .inl tng10))] H1 := hP
  have hD : va_D A [(ob, .inr (3, [.ref oba, .ref ob_1])), (ob_1, .inl (k 2, 1000, .inr (.inl obg1))), (tn_6, .inl (k 0, 10, .inl tng6)), (oba, .inr (1, [.ref oba_0, .int o_5, .int o_6])), (oba_0, .inl (k 0, 8, .inl o_7)), (tn, .inr (10, [.int tnv0, .int tnv1, .int tnv2, .ref tn_3, .ref tn_4, .ref tn_5, .ref tn_6, .int tnv7, .int tnv8, .ref tn_9, .ref tn_10, .int tnv11, .ref tn_12, .ref tn_13, .ref tn_14, .ref tn_15, .int tnv16, .ref tn_17, .ref tn_18, .ref tnt])), (tn_3, .inl (k 0, 10, .inl tng3)), (tn_4, .inl (k 0, 10, .inl tng4)), (tn_5, .inl (k 0, 10, .inl tng5)), (tn_9, .inl (k 0, 4, .inl tng9)), (tn_10, .inl (k 0, 4, .inl tng10))] := hD
  generalize H1 = H at hP hS ⊢
  have hw_8 : (PR 8 1 0 0 1000000 o_7) := hw
  have hw_9 := hw_8
  clear hw
  refine lv_aload_n hx hb dX3_weighLanes_14 rfl (lv_at hl 0 rfl) ?_
  refine va_get (D := D) (ci := 3) (v := .ref oba) (C := RX3) (T := TX3) (N := 2) hx hb hts iT_X3 hown hK hP 0 rfl rfl 0 (by decide) (hts _ tw_2_163) (fun _ h9 => h9) rfl dX3_weighLanes_15 ?_
  refine va_get (D := D) (ci := 1) (v := .ref oba_0) (C := RX1) (T := TX1) (N := 3) hx hb hts iT_X1 hown hK hP 3 rfl rfl 0 (by decide) (hts _ tw_2_21) (fun _ h9 => h9) rfl dX3_weighLanes_18 ?_
  refine lv_iload_n hx hb dX3_weighLanes_21 rfl (lv_at hl 2 rfl) ?_
  refine va_iald hx hb hK hP 4 0 rfl rfl (z_in (by omega) (by omega)) dX3_weighLanes_22 ?_
  refine lv_topi (fun x_10 ex_10 => ?_)
  have zx_10r0 : 0 ≤ x_10.toInt ∧ x_10.toInt ≤ 1000000 := by rw [ex_10]; exact PR.ld hw_9 (by omega) (by omega) (by omega)
  refine lv_istore (lv' := [(8, .int x_10), (0, .ref ob), (1, .ref tn), (2, .int p1), (3, .int p2), (4, .int p3), (5, .long p4), (7, .int 5)]) hx hb dX3_weighLanes_23 hl (by decide) rfl (fun ls hl => ?_)
  refine lv_iload hx hb dX3_weighLanes_25 (lv_at hl 0 rfl) ?_
  refine lv_sipush (v := 1000) hx hb dX3_weighLanes_27 (by decide) ?_
  refine lv_icmp_lt (tgt := 34) hx hb dX3_weighLanes_30 (by decide) (fun h_11 => ?_) (fun h_11 => ?_)
  · skip
    have zh_11 : x_10.toInt < 1000 := z_lt h_11
    refine lv_aload_n hx hb dX3_weighLanes_34 rfl (lv_at hl 1 rfl) ?_
    refine va_get (D := D) (ci := 3) (v := .ref oba) (C := RX3) (T := TX3) (N := 2) hx hb hts iT_X3 hown hK hP 0 rfl rfl 0 (by decide) (hts _ tw_2_163) (fun _ h9 => h9) rfl dX3_weighLanes_35 ?_
    refine lv_aload_n hx hb dX3_weighLanes_38 rfl (lv_at hl 2 rfl) ?_
    refine lv_iload_n hx hb dX3_weighLanes_39 rfl (lv_at hl 3 rfl) ?_
    obtain ⟨hPc, hDc, hFc⟩ := sub3 hP hD hS hA (ws' := [(oba, .inr (1, [.ref oba_0, .int o_5, .int o_6])), (oba_0, .inl (k 0, 8, .inl o_7)), (tn, .inr (10, [.int tnv0, .int tnv1, .int tnv2, .ref tn_3, .ref tn_4, .ref tn_5, .ref tn_6, .int tnv7, .int tnv8, .ref tn_9, .ref tn_10, .int tnv11, .ref tn_12, .ref tn_13, .ref tn_14, .ref tn_15, .int tnv16, .ref tn_17, .ref tn_18, .ref tnt])), (tn_3, .inl (k 0, 10, .inl tng3)), (tn_4, .inl (k 0, 10, .inl tng4)), (tn_5, .inl (k 0, 10, .inl tng5)), (tn_9, .inl (k 0, 4, .inl tng9)), (tn_10, .inl (k 0, 4, .inl tng10))]) [3, 4, 5, 6, 7, 8, 9, 10] (by decide +kernel) rfl
    refine va_calli (va_runV (C := RX1) (As := [.ref tn, .int p1]) (rest := []) ⟨hx, hb, hml, hown, hts⟩ (c_X1_wayTo l D k oba tn p1 oba_0 o_5 o_6 o_7 tnv0 tnv1 tnv2 tn_3 tn_4 tn_5 tn_6 tnv7 tnv8 tn_9 tn_10 tnv11 tn_12 tn_13 tn_14 tn_15 tnv16 tn_17 tn_18 tnt tng3 tng4 tng5 tng9 tng10 H.size (show 0 ≤ p1.toInt ∧ p1.toInt ≤ 7 from by omega) hw_9 (show 0 ≤ tnv0.toInt ∧ tnv0.toInt ≤ 8 from by omega) (show 0 ≤ tnv2.toInt ∧ tnv2.toInt ≤ 10 from by omega) (show 0 ≤ tnv8.toInt ∧ tnv8.toInt ≤ 4 from by omega) (show 0 ≤ tnv11.toInt ∧ tnv11.toInt ≤ 6 from by omega) (show 0 ≤ tnv16.toInt ∧ tnv16.toInt ≤ 2 from by omega) hp_tng3_0 hp_tng4_0 hp_tng5_0 hp_tng9_0 hp_tng10_0) (cwV 2 hts (gV tw_5_157 tw_4_96 tw_4_97 tw_1_6 tw_4_98) rfl rfl rfl hdV_X1_wayTo ⟨Nat.le_of_ble_eq_true rfl, Nat.le_of_ble_eq_true rfl⟩) (cz_V hK hPc hDc hN (ci := 1) (q0 := 0) rfl rfl [.ref tn, .int p1]) rfl rfl hl.1 rfl (lv_room (Nat.le_of_ble_eq_true rfl)) dX3_weighLanes_40 ⟨Nat.le_of_ble_eq_true rfl, Nat.le_of_ble_eq_true rfl⟩) hS (fun q _ h => hFc q h) hFc (fun r_12 uZ tZ H1 locs ht hvm hw hB hz1 hk1 hS => ?_)
    obtain ⟨hP1, hK1, hD1⟩ := hB
    rw [ht] at hP1
    obtain ⟨hP, hD⟩ := va_join (wr := [(ob, .inr (3, [.ref oba, .ref ob_1])), (ob_1, .inl (k 2, 1000, .inr (.inl obg1))), (tn_6, .inl (k 0, 10, .inl tng6))]) (w1 := [(oba, .inr (1, [.ref oba_0, .int o_5, .int o_6])), (oba_0, .inl (k 0, 8, .inl o_7)), (tn, .inr (10, [.int tnv0, .int tnv1, .int tnv2, .ref tn_3, .ref tn_4, .ref tn_5, .ref tn_6, .int tnv7, .int tnv8, .ref tn_9, .ref tn_10, .int tnv11, .ref tn_12, .ref tn_13, .ref tn_14, .ref tn_15, .int tnv16, .ref tn_17, .ref tn_18, .ref tnt])), (tn_3, .inl (k 0, 10, .inl tng3)), (tn_4, .inl (k 0, 10, .inl tng4)), (tn_5, .inl (k 0, 10, .inl tng5)), (tn_9, .inl (k 0, 4, .inl tng9)), (tn_10, .inl (k 0, 4, .inl tng10))]) hP hD [3, 4, 5, 6, 7, 8, 9, 10] [0, 1, 2] rfl rfl (by decide +kernel) (by decide +kernel) hk1 hFc hP1 hD1
    clear hK1 hP1 hD1 hPc hDc hFc
    clear hk1 hz1 ht hvm
    have hP : va_P D vwCl [(ob, .inr (3, [.ref oba, .ref ob_1])), (ob_1, .inl (k 2, 1000, .inr (.inl obg1))), (tn_6, .inl (k 0, 10, .inl tng6)), (oba, .inr (1, [.ref oba_0, .int o_5, .int o_6])), (oba_0, .inl (k 0, 8, .inl o_7)), (tn, .inr (10, [.int tnv0, .int tnv1, .int tnv2, .ref tn_3, .ref tn_4, .ref tn_5, .ref tn_6, .int tnv7, .int tnv8, .ref tn_9, .ref tn_10, .int tnv11, .ref tn_12, .ref tn_13, .ref tn_14, .ref tn_15, .int tnv16, .ref tn_17, .ref tn_18, .ref tnt])), (tn_3, .inl (k 0, 10, .inl tng3)), (tn_4, .inl (k 0, 10, .inl tng4)), (tn_5, .inl (k 0, 10, .inl tng5)), (tn_9, .inl (k 0, 4, .inl tng9)), (tn_10, .inl (k 0, 4, .inl tng10))] H1 := hP
    have hD : va_D A [(ob, .inr (3, [.ref oba, .ref ob_1])), (ob_1, .inl (k 2, 1000, .inr (.inl obg1))), (tn_6, .inl (k 0, 10, .inl tng6)), (oba, .inr (1, [.ref oba_0, .int o_5, .int o_6])), (oba_0, .inl (k 0, 8, .inl o_7)), (tn, .inr (10, [.int tnv0, .int tnv1, .int tnv2, .ref tn_3, .ref tn_4, .ref tn_5, .ref tn_6, .int tnv7, .int tnv8, .ref tn_9, .ref tn_10, .int tnv11, .ref tn_12, .ref tn_13, .ref tn_14, .ref tn_15, .int tnv16, .ref tn_17, .ref tn_18, .ref tnt])), (tn_3, .inl (k 0, 10, .inl tng3)), (tn_4, .inl (k 0, 10, .inl tng4)), (tn_5, .inl (k 0, 10, .inl tng5)), (tn_9, .inl (k 0, 4, .inl tng9)), (tn_10, .inl (k 0, 4, .inl tng10))] := hD
    generalize H1 = H at hP hS ⊢
    have hw_13 : (0 ≤ r_12.toInt ∧ r_12.toInt ≤ 1023) := hw
    have hw_14 := hw_13
    clear hw
    refine lv_iload_n hx hb dX3_weighLanes_43 rfl (lv_at hl 4 rfl) ?_
    refine lv_iconst (v := (-1)) hx hb dX3_weighLanes_44 (by decide) ?_
    refine lv_ixor hx hb dX3_weighLanes_45 ?_
    refine lv_topi (fun x_15 ex_15 => ?_)
    have zrp2 := z_rng p2
    refine lv_iand hx hb dX3_weighLanes_46 ?_
    refine lv_topi (fun x_16 ex_16 => ?_)
    have zrx_15 := z_rng x_15
    have zx_16 : 0 ≤ x_16.toInt ∧ x_16.toInt ≤ r_12.toInt := by rw [ex_16]; exact z_andL (by omega)
    refine lv_istore (lv' := [(9, .int x_16), (8, .int x_10), (0, .ref ob), (1, .ref tn), (2, .int p1), (3, .int p2), (4, .int p3), (5, .long p4), (7, .int 5)]) hx hb dX3_weighLanes_47 hl (by decide) rfl (fun ls hl => ?_)
    refine lv_iload hx hb dX3_weighLanes_49 (lv_at hl 0 rfl) ?_
    refine lv_iload hx hb dX3_weighLanes_51 (lv_at hl 0 rfl) ?_
    refine lv_ineg hx hb dX3_weighLanes_53 ?_
    refine lv_topi (fun x_17 ex_17 => ?_)
    refine lv_iand hx hb dX3_weighLanes_54 ?_
    refine lv_topi (fun x_18 ex_18 => ?_)
    have zrx_17 := z_rng x_17
    have zx_18 : 0 ≤ x_18.toInt ∧ x_18.toInt ≤ x_16.toInt := by rw [ex_18]; exact z_andL (by omega)
    refine lv_iconst (v := 1) hx hb dX3_weighLanes_55 (by decide) ?_
    refine lv_isub hx hb dX3_weighLanes_56 ?_
    refine lv_topi (fun x_19 ex_19 => ?_)
    have zx_19 : x_19.toInt = x_18.toInt - 1 := by rw [ex_19]; exact z_sub rfl rfl (by omega) (by omega)
    obtain ⟨hPc, hDc, hFc⟩ := sub3 hP hD hS hA (ws' := []) [] (by decide +kernel) rfl
    refine va_calli (va_runS (As := [.int x_19]) (rest := []) ⟨hx, hb, hml, hown, hts⟩ (c_J6_bitCount_0f7a4 l D k x_19 H.size) (va_cwS 1 hts (gS tw_5_158 tw_4_101 tw_1_20 tw_4_102) rfl rfl rfl hdS_J6_bitCount_0f7a4 ⟨Nat.le_of_ble_eq_true rfl, Nat.le_of_ble_eq_true rfl⟩) (cz_S hK hPc hDc hN [.int x_19]) rfl rfl hl.1 rfl (lv_room (Nat.le_of_ble_eq_true rfl)) dX3_weighLanes_57 ⟨Nat.le_of_ble_eq_true rfl, Nat.le_of_ble_eq_true rfl⟩) hS (fun q _ h => hFc q h) hFc (fun r_20 uZ tZ H1 locs ht hvm hw hB hz1 hk1 hS => ?_)
    obtain ⟨hP1, hK1, hD1⟩ := hB
    rw [ht] at hP1
    obtain ⟨hP, hD⟩ := va_join (wr := [(ob, .inr (3, [.ref oba, .ref ob_1])), (ob_1, .inl (k 2, 1000, .inr (.inl obg1))), (tn_6, .inl (k 0, 10, .inl tng6)), (oba, .inr (1, [.ref oba_0, .int o_5, .int o_6])), (oba_0, .inl (k 0, 8, .inl o_7)), (tn, .inr (10, [.int tnv0, .int tnv1, .int tnv2, .ref tn_3, .ref tn_4, .ref tn_5, .ref tn_6, .int tnv7, .int tnv8, .ref tn_9, .ref tn_10, .int tnv11, .ref tn_12, .ref tn_13, .ref tn_14, .ref tn_15, .int tnv16, .ref tn_17, .ref tn_18, .ref tnt])), (tn_3, .inl (k 0, 10, .inl tng3)), (tn_4, .inl (k 0, 10, .inl tng4)), (tn_5, .inl (k 0, 10, .inl tng5)), (tn_9, .inl (k 0, 4, .inl tng9)), (tn_10, .inl (k 0, 4, .inl tng10))]) (w1 := []) hP hD [] [0, 1, 2, 3, 4, 5, 6, 7, 8, 9, 10] rfl rfl (by decide +kernel) (by decide +kernel) hk1 hFc hP1 hD1
    clear hK1 hP1 hD1 hPc hDc hFc
    clear hk1 hz1 ht hvm
    have hP : va_P D vwCl [(ob, .inr (3, [.ref oba, .ref ob_1])), (ob_1, .inl (k 2, 1000, .inr (.inl obg1))), (tn_6, .inl (k 0, 10, .inl tng6)), (oba, .inr (1, [.ref oba_0, .int o_5, .int o_6])), (oba_0, .inl (k 0, 8, .inl o_7)), (tn, .inr (10, [.int tnv0, .int tnv1, .int tnv2, .ref tn_3, .ref tn_4, .ref tn_5, .ref tn_6, .int tnv7, .int tnv8, .ref tn_9, .ref tn_10, .int tnv11, .ref tn_12, .ref tn_13, .ref tn_14, .ref tn_15, .int tnv16, .ref tn_17, .ref tn_18, .ref tnt])), (tn_3, .inl (k 0, 10, .inl tng3)), (tn_4, .inl (k 0, 10, .inl tng4)), (tn_5, .inl (k 0, 10, .inl tng5)), (tn_9, .inl (k 0, 4, .inl tng9)), (tn_10, .inl (k 0, 4, .inl tng10))] H1 := hP
    have hD : va_D A [(ob, .inr (3, [.ref oba, .ref ob_1])), (ob_1, .inl (k 2, 1000, .inr (.inl obg1))), (tn_6, .inl (k 0, 10, .inl tng6)), (oba, .inr (1, [.ref oba_0, .int o_5, .int o_6])), (oba_0, .inl (k 0, 8, .inl o_7)), (tn, .inr (10, [.int tnv0, .int tnv1, .int tnv2, .ref tn_3, .ref tn_4, .ref tn_5, .ref tn_6, .int tnv7, .int tnv8, .ref tn_9, .ref tn_10, .int tnv11, .ref tn_12, .ref tn_13, .ref tn_14, .ref tn_15, .int tnv16, .ref tn_17, .ref tn_18, .ref tnt])), (tn_3, .inl (k 0, 10, .inl tng3)), (tn_4, .inl (k 0, 10, .inl tng4)), (tn_5, .inl (k 0, 10, .inl tng5)), (tn_9, .inl (k 0, 4, .inl tng9)), (tn_10, .inl (k 0, 4, .inl tng10))] := hD
    generalize H1 = H at hP hS ⊢
    have hw_21 : (0 ≤ r_20.toInt ∧ r_20.toInt ≤ 63) := hw
    have hw_22 := hw_21
    clear hw
    refine lv_istore (lv' := [(10, .int r_20), (9, .int x_16), (8, .int x_10), (0, .ref ob), (1, .ref tn), (2, .int p1), (3, .int p2), (4, .int p3), (5, .long p4), (7, .int 5)]) hx hb dX3_weighLanes_60 hl (by decide) rfl (fun ls hl => ?_)
    refine lv_iload hx hb dX3_weighLanes_62 (lv_at hl 1 rfl) ?_
    refine lv_if_eq (tgt := 81) hx hb dX3_weighLanes_64 (by decide) (fun h_23 => ?_) (fun h_23 => ?_)
    · skip
      have zh_23 : x_16.toInt = 0 := z_eq h_23
      refine lv_aload_n hx hb dX3_weighLanes_81 rfl (lv_at hl 3 rfl) ?_
      refine va_get (D := D) (ci := 3) (v := .ref ob_1) (C := RX3) (T := TX3) (N := 2) hx hb hts iT_X3 hown hK hP 0 rfl rfl 1 (by decide) (hts _ tw_2_164) (fun _ h9 => h9) rfl dX3_weighLanes_82 ?_
      refine lv_iload hx hb dX3_weighLanes_85 (lv_at hl 2 rfl) ?_
      refine lv_dup2_11 hx hb dX3_weighLanes_87 rfl rfl ?_
      refine va_lald hx hb hK hP 1 2 rfl rfl (z_in (by omega) (by omega)) dX3_weighLanes_88 ?_
      refine lv_topl (fun x_24 ex_24 => ?_)
      refine lv_lload hx hb dX3_weighLanes_89 (lv_at hl 8 rfl) ?_
      refine lv_ladd hx hb dX3_weighLanes_91 ?_
      refine lv_topl (fun x_25 ex_25 => ?_)
      refine va_last hx hb hK hP hD hS 1 2 rfl rfl (z_in (by omega) (by omega)) dX3_weighLanes_92 (fun H locs hP hD hS => ?_)
      obtain ⟨g_26, eg_26⟩ : ∃ z : Nat → Int64, vp_updL obg1 x_10.toNatClampNeg x_25 = z := ⟨_, rfl⟩
      have hP : va_P D vwCl [(ob, .inr (3, [.ref oba, .ref ob_1])), (ob_1, .inl (k 2, 1000, .inr (.inl (vp_updL obg1 x_10.toNatClampNeg x_25)))), (tn_6, .inl (k 0, 10, .inl tng6)), (oba, .inr (1, [.ref oba_0, .int o_5, .int o_6])), (oba_0, .inl (k 0, 8, .inl o_7)), (tn, .inr (10, [.int tnv0, .int tnv1, .int tnv2, .ref tn_3, .ref tn_4, .ref tn_5, .ref tn_6, .int tnv7, .int tnv8, .ref tn_9, .ref tn_10, .int tnv11, .ref tn_12, .ref tn_13, .ref tn_14, .ref tn_15, .int tnv16, .ref tn_17, .ref tn_18, .ref tnt])), (tn_3, .inl (k 0, 10, .inl tng3)), (tn_4, .inl (k 0, 10, .inl tng4)), (tn_5, .inl (k 0, 10, .inl tng5)), (tn_9, .inl (k 0, 4, .inl tng9)), (tn_10, .inl (k 0, 4, .inl tng10))] H := hP
      have hD : va_D A [(ob, .inr (3, [.ref oba, .ref ob_1])), (ob_1, .inl (k 2, 1000, .inr (.inl (vp_updL obg1 x_10.toNatClampNeg x_25)))), (tn_6, .inl (k 0, 10, .inl tng6)), (oba, .inr (1, [.ref oba_0, .int o_5, .int o_6])), (oba_0, .inl (k 0, 8, .inl o_7)), (tn, .inr (10, [.int tnv0, .int tnv1, .int tnv2, .ref tn_3, .ref tn_4, .ref tn_5, .ref tn_6, .int tnv7, .int tnv8, .ref tn_9, .ref tn_10, .int tnv11, .ref tn_12, .ref tn_13, .ref tn_14, .ref tn_15, .int tnv16, .ref tn_17, .ref tn_18, .ref tnt])), (tn_3, .inl (k 0, 10, .inl tng3)), (tn_4, .inl (k 0, 10, .inl tng4)), (tn_5, .inl (k 0, 10, .inl tng5)), (tn_9, .inl (k 0, 4, .inl tng9)), (tn_10, .inl (k 0, 4, .inl tng10))] := hD
      rw [eg_26] at hP hD
      obtain ⟨hP9, hD9⟩ := sub2 hP hD (ws' := [(ob, .inr (3, [.ref oba, .ref ob_1])), (oba, .inr (1, [.ref oba_0, .int o_5, .int o_6])), (oba_0, .inl (k 0, 8, .inl o_7)), (ob_1, .inl (k 2, 1000, .inr (.inl g_26))), (tn, .inr (10, [.int tnv0, .int tnv1, .int tnv2, .ref tn_3, .ref tn_4, .ref tn_5, .ref tn_6, .int tnv7, .int tnv8, .ref tn_9, .ref tn_10, .int tnv11, .ref tn_12, .ref tn_13, .ref tn_14, .ref tn_15, .int tnv16, .ref tn_17, .ref tn_18, .ref tnt])), (tn_3, .inl (k 0, 10, .inl tng3)), (tn_4, .inl (k 0, 10, .inl tng4)), (tn_5, .inl (k 0, 10, .inl tng5)), (tn_6, .inl (k 0, 10, .inl tng6)), (tn_9, .inl (k 0, 4, .inl tng9)), (tn_10, .inl (k 0, 4, .inl tng10))]) [0, 3, 4, 1, 5, 6, 7, 8, 2, 9, 10] (by decide +kernel) rfl
      exact W.vret hx hb hr (fun tZ ht hW => ⟨⟨(o_5, o_6, o_7, g_26), rfl, hw_9, by rw [ht]; exact hP9, va_K.moved hW.alike hK, hD9⟩, hS.F ht⟩) hS.2.2 dX3_weighLanes_93
    · skip
      have zh_23 : ¬ x_16.toInt = 0 := z_ne h_23
      refine lv_iload hx hb dX3_weighLanes_67 (lv_at hl 0 rfl) ?_
      refine lv_bipush (v := 10) hx hb dX3_weighLanes_69 (by decide) ?_
      refine lv_icmp_ge (tgt := 81) hx hb dX3_weighLanes_71 (by decide) (fun h_27 => ?_) (fun h_27 => ?_)
      · skip
        have zh_27 : 10 ≤ r_20.toInt := z_le h_27
        refine lv_aload_n hx hb dX3_weighLanes_81 rfl (lv_at hl 3 rfl) ?_
        refine va_get (D := D) (ci := 3) (v := .ref ob_1) (C := RX3) (T := TX3) (N := 2) hx hb hts iT_X3 hown hK hP 0 rfl rfl 1 (by decide) (hts _ tw_2_164) (fun _ h9 => h9) rfl dX3_weighLanes_82 ?_
        refine lv_iload hx hb dX3_weighLanes_85 (lv_at hl 2 rfl) ?_
        refine lv_dup2_11 hx hb dX3_weighLanes_87 rfl rfl ?_
        refine va_lald hx hb hK hP 1 2 rfl rfl (z_in (by omega) (by omega)) dX3_weighLanes_88 ?_
        refine lv_topl (fun x_28 ex_28 => ?_)
        refine lv_lload hx hb dX3_weighLanes_89 (lv_at hl 8 rfl) ?_
        refine lv_ladd hx hb dX3_weighLanes_91 ?_
        refine lv_topl (fun x_29 ex_29 => ?_)
        refine va_last hx hb hK hP hD hS 1 2 rfl rfl (z_in (by omega) (by omega)) dX3_weighLanes_92 (fun H locs hP hD hS => ?_)
        obtain ⟨g_30, eg_30⟩ : ∃ z : Nat → Int64, vp_updL obg1 x_10.toNatClampNeg x_29 = z := ⟨_, rfl⟩
        have hP : va_P D vwCl [(ob, .inr (3, [.ref oba, .ref ob_1])), (ob_1, .inl (k 2, 1000, .inr (.inl (vp_updL obg1 x_10.toNatClampNeg x_29)))), (tn_6, .inl (k 0, 10, .inl tng6)), (oba, .inr (1, [.ref oba_0, .int o_5, .int o_6])), (oba_0, .inl (k 0, 8, .inl o_7)), (tn, .inr (10, [.int tnv0, .int tnv1, .int tnv2, .ref tn_3, .ref tn_4, .ref tn_5, .ref tn_6, .int tnv7, .int tnv8, .ref tn_9, .ref tn_10, .int tnv11, .ref tn_12, .ref tn_13, .ref tn_14, .ref tn_15, .int tnv16, .ref tn_17, .ref tn_18, .ref tnt])), (tn_3, .inl (k 0, 10, .inl tng3)), (tn_4, .inl (k 0, 10, .inl tng4)), (tn_5, .inl (k 0, 10, .inl tng5)), (tn_9, .inl (k 0, 4, .inl tng9)), (tn_10, .inl (k 0, 4, .inl tng10))] H := hP
        have hD : va_D A [(ob, .inr (3, [.ref oba, .ref ob_1])), (ob_1, .inl (k 2, 1000, .inr (.inl (vp_updL obg1 x_10.toNatClampNeg x_29)))), (tn_6, .inl (k 0, 10, .inl tng6)), (oba, .inr (1, [.ref oba_0, .int o_5, .int o_6])), (oba_0, .inl (k 0, 8, .inl o_7)), (tn, .inr (10, [.int tnv0, .int tnv1, .int tnv2, .ref tn_3, .ref tn_4, .ref tn_5, .ref tn_6, .int tnv7, .int tnv8, .ref tn_9, .ref tn_10, .int tnv11, .ref tn_12, .ref tn_13, .ref tn_14, .ref tn_15, .int tnv16, .ref tn_17, .ref tn_18, .ref tnt])), (tn_3, .inl (k 0, 10, .inl tng3)), (tn_4, .inl (k 0, 10, .inl tng4)), (tn_5, .inl (k 0, 10, .inl tng5)), (tn_9, .inl (k 0, 4, .inl tng9)), (tn_10, .inl (k 0, 4, .inl tng10))] := hD
        rw [eg_30] at hP hD
        obtain ⟨hP9, hD9⟩ := sub2 hP hD (ws' := [(ob, .inr (3, [.ref oba, .ref ob_1])), (oba, .inr (1, [.ref oba_0, .int o_5, .int o_6])), (oba_0, .inl (k 0, 8, .inl o_7)), (ob_1, .inl (k 2, 1000, .inr (.inl g_30))), (tn, .inr (10, [.int tnv0, .int tnv1, .int tnv2, .ref tn_3, .ref tn_4, .ref tn_5, .ref tn_6, .int tnv7, .int tnv8, .ref tn_9, .ref tn_10, .int tnv11, .ref tn_12, .ref tn_13, .ref tn_14, .ref tn_15, .int tnv16, .ref tn_17, .ref tn_18, .ref tnt])), (tn_3, .inl (k 0, 10, .inl tng3)), (tn_4, .inl (k 0, 10, .inl tng4)), (tn_5, .inl (k 0, 10, .inl tng5)), (tn_6, .inl (k 0, 10, .inl tng6)), (tn_9, .inl (k 0, 4, .inl tng9)), (tn_10, .inl (k 0, 4, .inl tng10))]) [0, 3, 4, 1, 5, 6, 7, 8, 2, 9, 10] (by decide +kernel) rfl
        exact W.vret hx hb hr (fun tZ ht hW => ⟨⟨(o_5, o_6, o_7, g_30), rfl, hw_9, by rw [ht]; exact hP9, va_K.moved hW.alike hK, hD9⟩, hS.F ht⟩) hS.2.2 dX3_weighLanes_93
      · skip
        have zh_27 : r_20.toInt < 10 := z_nle h_27
        refine lv_iload hx hb dX3_weighLanes_74 (lv_at hl 9 rfl) ?_
        refine lv_bipush (v := 10) hx hb dX3_weighLanes_76 (by decide) ?_
        refine lv_icmp_lt (tgt := 94) hx hb dX3_weighLanes_78 (by decide) (fun _ => ?_) (fun c9 => absurd c9 (by decide))
        refine lv_iconst (v := 1) hx hb dX3_weighLanes_94 (by decide) ?_
        refine lv_iload hx hb dX3_weighLanes_95 (lv_at hl 0 rfl) ?_
        refine lv_ishl hx hb dX3_weighLanes_97 ?_
        refine lv_topi (fun x_31 ex_31 => ?_)
        have zx_31 : 1 ≤ x_31.toInt ∧ x_31.toInt ≤ 512 := by rw [ex_31]; exact z_shl1 9 512 rfl (by decide) (by omega) (by omega)
        refine lv_istore (lv' := [(11, .int x_31), (10, .int r_20), (9, .int x_16), (8, .int x_10), (0, .ref ob), (1, .ref tn), (2, .int p1), (3, .int p2), (4, .int p3), (5, .long p4), (7, .int 5)]) hx hb dX3_weighLanes_98 hl (by decide) rfl (fun ls hl => ?_)
        refine lv_lload hx hb dX3_weighLanes_100 (lv_at hl 9 rfl) ?_
        refine lv_ldc2 (v := 10) hx hb hown (hts _ tw_5_159) dX3_weighLanes_102 ?_
        refine lv_ldiv hx hb dX3_weighLanes_105 (by decide) ?_
        refine lv_topl (fun x_32 ex_32 => ?_)
        refine lv_lstore (lv' := [(12, .long x_32), (11, .int x_31), (10, .int r_20), (9, .int x_16), (8, .int x_10), (0, .ref ob), (1, .ref tn), (2, .int p1), (3, .int p2), (4, .int p3), (5, .long p4), (7, .int 5)]) hx hb dX3_weighLanes_106 hl (by decide) rfl (fun ls hl => ?_)
        refine lv_aload_n hx hb dX3_weighLanes_108 rfl (lv_at hl 5 rfl) ?_
        refine lv_aload_n hx hb dX3_weighLanes_109 rfl (lv_at hl 6 rfl) ?_
        refine lv_iload_n hx hb dX3_weighLanes_110 rfl (lv_at hl 7 rfl) ?_
        refine lv_iload_n hx hb dX3_weighLanes_111 rfl (lv_at hl 8 rfl) ?_
        refine lv_iload hx hb dX3_weighLanes_112 (lv_at hl 1 rfl) ?_
        refine lv_ior hx hb dX3_weighLanes_114 ?_
        refine lv_topi (fun x_33 ex_33 => ?_)
        refine lv_iload hx hb dX3_weighLanes_115 (lv_at hl 9 rfl) ?_
        refine lv_lload hx hb dX3_weighLanes_117 (lv_at hl 0 rfl) ?_
        refine lv_bipush (v := 10) hx hb dX3_weighLanes_119 (by decide) ?_
        refine lv_aload_n hx hb dX3_weighLanes_121 rfl (lv_at hl 6 rfl) ?_
        refine va_get (D := D) (ci := 10) (v := .ref tn_6) (C := RX10) (T := TX10) (N := 20) hx hb hts iT_X10 hown hK hP 5 rfl rfl 6 (by decide) (hts _ tw_1_98) (fun _ h9 => h9) rfl dX3_weighLanes_122 ?_
        refine lv_iload hx hb dX3_weighLanes_125 (lv_at hl 2 rfl) ?_
        refine va_iald hx hb hK hP 2 0 rfl rfl (z_in (by omega) (by omega)) dX3_weighLanes_127 ?_
        refine lv_topi (fun x_34 ex_34 => ?_)
        have zx_34r0 : 0 ≤ x_34.toInt ∧ x_34.toInt ≤ 10 := by rw [ex_34]; exact PR.ld hp_tng6_0 (by omega) (by omega) (by omega)
        refine lv_isub hx hb dX3_weighLanes_128 ?_
        refine lv_topi (fun x_35 ex_35 => ?_)
        have zx_35 : x_35.toInt = 10 - x_34.toInt := by rw [ex_35]; exact z_sub rfl rfl (by omega) (by omega)
        refine lv_i2l (v := x_35.toInt64) hx hb dX3_weighLanes_129 rfl ?_
        refine lv_lmul hx hb dX3_weighLanes_130 ?_
        refine lv_topl (fun x_36 ex_36 => ?_)
        refine lv_iload hx hb dX3_weighLanes_131 (lv_at hl 11 rfl) ?_
        refine lv_iconst (v := 1) hx hb dX3_weighLanes_133 (by decide) ?_
        refine lv_iadd hx hb dX3_weighLanes_134 ?_
        refine lv_topi (fun x_37 ex_37 => ?_)
        obtain rfl : x_37 = 6 := ex_37.trans (by decide)
        obtain ⟨hPc, hDc, hFc⟩ := sub3 hP hD hS hA (ws' := [(ob, .inr (3, [.ref oba, .ref ob_1])), (oba, .inr (1, [.ref oba_0, .int o_5, .int o_6])), (oba_0, .inl (k 0, 8, .inl o_7)), (ob_1, .inl (k 2, 1000, .inr (.inl obg1))), (tn, .inr (10, [.int tnv0, .int tnv1, .int tnv2, .ref tn_3, .ref tn_4, .ref tn_5, .ref tn_6, .int tnv7, .int tnv8, .ref tn_9, .ref tn_10, .int tnv11, .ref tn_12, .ref tn_13, .ref tn_14, .ref tn_15, .int tnv16, .ref tn_17, .ref tn_18, .ref tnt])), (tn_3, .inl (k 0, 10, .inl tng3)), (tn_4, .inl (k 0, 10, .inl tng4)), (tn_5, .inl (k 0, 10, .inl tng5)), (tn_6, .inl (k 0, 10, .inl tng6)), (tn_9, .inl (k 0, 4, .inl tng9)), (tn_10, .inl (k 0, 4, .inl tng10))]) [0, 3, 4, 1, 5, 6, 7, 8, 2, 9, 10] (by decide +kernel) rfl
        refine va_callv (va_runV (C := RX3) (As := [.ref tn, .int p1, .int x_33, .int p3, .long x_36, .int 6]) (rest := []) ⟨hx, hb, hml, hown, hts⟩ (c_X3_weighLanes_4 l D k ob tn p1 x_33 p3 x_36 oba ob_1 oba_0 o_5 o_6 o_7 obg1 tnv0 tnv1 tnv2 tn_3 tn_4 tn_5 tn_6 tnv7 tnv8 tn_9 tn_10 tnv11 tn_12 tn_13 tn_14 tn_15 tnv16 tn_17 tn_18 tnt tng3 tng4 tng5 tng6 tng9 tng10 H.size (show 0 ≤ p1.toInt ∧ p1.toInt ≤ 7 from by omega) hw_9 (show 0 ≤ tnv0.toInt ∧ tnv0.toInt ≤ 8 from by omega) (show 0 ≤ tnv2.toInt ∧ tnv2.toInt ≤ 10 from by omega) (show 0 ≤ tnv8.toInt ∧ tnv8.toInt ≤ 4 from by omega) (show 0 ≤ tnv11.toInt ∧ tnv11.toInt ≤ 6 from by omega) (show 0 ≤ tnv16.toInt ∧ tnv16.toInt ≤ 2 from by omega) hp_tng3_0 hp_tng4_0 hp_tng5_0 hp_tng6_0 hp_tng9_0 hp_tng10_0) (cwV 6 hts (gV tw_5_151 tw_5_153 tw_p_34 tw_1_12 tw_5_154) rfl rfl rfl hdV_X3_weighLanes ⟨Nat.le_of_ble_eq_true rfl, Nat.le_of_ble_eq_true rfl⟩) (cz_V hK hPc hDc hN (ci := 3) (q0 := 0) rfl rfl [.ref tn, .int p1, .int x_33, .int p3, .long x_36, .int 6]) rfl rfl hl.1 rfl (lv_room (Nat.le_of_ble_eq_true rfl)) dX3_weighLanes_135 ⟨Nat.le_of_ble_eq_true rfl, Nat.le_of_ble_eq_true rfl⟩) hS (fun q _ h => hFc q h) hFc (fun uZ tZ H1 locs ht hvm hw hB hz1 hk1 hS => ?_)
        obtain ⟨o_39, o_40, o_41, o_42⟩ := uZ
        obtain ⟨hP1, hK1, hD1⟩ := hB
        rw [ht] at hP1
        obtain ⟨hP, hD⟩ := va_join (wr := []) (w1 := [(ob, .inr (3, [.ref oba, .ref ob_1])), (oba, .inr (1, [.ref oba_0, .int o_39, .int o_40])), (oba_0, .inl (k 0, 8, .inl o_41)), (ob_1, .inl (k 2, 1000, .inr (.inl o_42))), (tn, .inr (10, [.int tnv0, .int tnv1, .int tnv2, .ref tn_3, .ref tn_4, .ref tn_5, .ref tn_6, .int tnv7, .int tnv8, .ref tn_9, .ref tn_10, .int tnv11, .ref tn_12, .ref tn_13, .ref tn_14, .ref tn_15, .int tnv16, .ref tn_17, .ref tn_18, .ref tnt])), (tn_3, .inl (k 0, 10, .inl tng3)), (tn_4, .inl (k 0, 10, .inl tng4)), (tn_5, .inl (k 0, 10, .inl tng5)), (tn_6, .inl (k 0, 10, .inl tng6)), (tn_9, .inl (k 0, 4, .inl tng9)), (tn_10, .inl (k 0, 4, .inl tng10))]) hP hD [0, 3, 4, 1, 5, 6, 7, 8, 2, 9, 10] [] rfl rfl (by decide +kernel) (by decide +kernel) hk1 hFc hP1 hD1
        clear hK1 hP1 hD1 hPc hDc hFc
        clear hk1 hz1 ht hvm
        have hP : va_P D vwCl [(ob, .inr (3, [.ref oba, .ref ob_1])), (oba, .inr (1, [.ref oba_0, .int o_39, .int o_40])), (oba_0, .inl (k 0, 8, .inl o_41)), (ob_1, .inl (k 2, 1000, .inr (.inl o_42))), (tn, .inr (10, [.int tnv0, .int tnv1, .int tnv2, .ref tn_3, .ref tn_4, .ref tn_5, .ref tn_6, .int tnv7, .int tnv8, .ref tn_9, .ref tn_10, .int tnv11, .ref tn_12, .ref tn_13, .ref tn_14, .ref tn_15, .int tnv16, .ref tn_17, .ref tn_18, .ref tnt])), (tn_3, .inl (k 0, 10, .inl tng3)), (tn_4, .inl (k 0, 10, .inl tng4)), (tn_5, .inl (k 0, 10, .inl tng5)), (tn_6, .inl (k 0, 10, .inl tng6)), (tn_9, .inl (k 0, 4, .inl tng9)), (tn_10, .inl (k 0, 4, .inl tng10))] H1 := hP
        have hD : va_D A [(ob, .inr (3, [.ref oba, .ref ob_1])), (oba, .inr (1, [.ref oba_0, .int o_39, .int o_40])), (oba_0, .inl (k 0, 8, .inl o_41)), (ob_1, .inl (k 2, 1000, .inr (.inl o_42))), (tn, .inr (10, [.int tnv0, .int tnv1, .int tnv2, .ref tn_3, .ref tn_4, .ref tn_5, .ref tn_6, .int tnv7, .int tnv8, .ref tn_9, .ref tn_10, .int tnv11, .ref tn_12, .ref tn_13, .ref tn_14, .ref tn_15, .int tnv16, .ref tn_17, .ref tn_18, .ref tnt])), (tn_3, .inl (k 0, 10, .inl tng3)), (tn_4, .inl (k 0, 10, .inl tng4)), (tn_5, .inl (k 0, 10, .inl tng5)), (tn_6, .inl (k 0, 10, .inl tng6)), (tn_9, .inl (k 0, 4, .inl tng9)), (tn_10, .inl (k 0, 4, .inl tng10))] := hD
        generalize H1 = H at hP hS ⊢
        have hw_43 : (PR 8 1 0 0 1000000 o_41) := hw
        have hw_44 := hw_43
        clear hw
        refine lv_aload_n hx hb dX3_weighLanes_138 rfl (lv_at hl 5 rfl) ?_
        refine lv_aload_n hx hb dX3_weighLanes_139 rfl (lv_at hl 6 rfl) ?_
        refine lv_iload_n hx hb dX3_weighLanes_140 rfl (lv_at hl 7 rfl) ?_
        refine lv_iload_n hx hb dX3_weighLanes_141 rfl (lv_at hl 8 rfl) ?_
        refine lv_iload hx hb dX3_weighLanes_142 (lv_at hl 1 rfl) ?_
        refine lv_ior hx hb dX3_weighLanes_144 ?_
        refine lv_topi (fun x_45 ex_45 => ?_)
        obtain rfl : x_33 = x_45 := ex_33.trans ex_45.symm
        refine lv_iload hx hb dX3_weighLanes_145 (lv_at hl 9 rfl) ?_
        refine lv_iload hx hb dX3_weighLanes_147 (lv_at hl 1 rfl) ?_
        refine lv_ior hx hb dX3_weighLanes_149 ?_
        refine lv_topi (fun x_46 ex_46 => ?_)
        have zrp3 := z_rng p3
        refine lv_lload hx hb dX3_weighLanes_150 (lv_at hl 0 rfl) ?_
        refine lv_aload_n hx hb dX3_weighLanes_152 rfl (lv_at hl 6 rfl) ?_
        refine va_get (D := D) (ci := 10) (v := .ref tn_6) (C := RX10) (T := TX10) (N := 20) hx hb hts iT_X10 hown hK hP 4 rfl rfl 6 (by decide) (hts _ tw_1_98) (fun _ h9 => h9) rfl dX3_weighLanes_153 ?_
        refine lv_iload hx hb dX3_weighLanes_156 (lv_at hl 2 rfl) ?_
        refine va_iald hx hb hK hP 8 0 rfl rfl (z_in (by omega) (by omega)) dX3_weighLanes_158 ?_
        refine lv_topi (fun x_47 ex_47 => ?_)
        obtain rfl : x_34 = x_47 := ex_34.trans ex_47.symm
        refine lv_i2l (v := x_34.toInt64) hx hb dX3_weighLanes_159 rfl ?_
        refine lv_lmul hx hb dX3_weighLanes_160 ?_
        refine lv_topl (fun x_48 ex_48 => ?_)
        refine lv_iload hx hb dX3_weighLanes_161 (lv_at hl 11 rfl) ?_
        refine lv_iconst (v := 1) hx hb dX3_weighLanes_163 (by decide) ?_
        refine lv_iadd hx hb dX3_weighLanes_164 ?_
        refine lv_topi (fun x_49 ex_49 => ?_)
        obtain rfl : x_49 = 6 := ex_49.trans (by decide)
        obtain ⟨hPc, hDc, hFc⟩ := sub3 hP hD hS hA (ws' := [(ob, .inr (3, [.ref oba, .ref ob_1])), (oba, .inr (1, [.ref oba_0, .int o_39, .int o_40])), (oba_0, .inl (k 0, 8, .inl o_41)), (ob_1, .inl (k 2, 1000, .inr (.inl o_42))), (tn, .inr (10, [.int tnv0, .int tnv1, .int tnv2, .ref tn_3, .ref tn_4, .ref tn_5, .ref tn_6, .int tnv7, .int tnv8, .ref tn_9, .ref tn_10, .int tnv11, .ref tn_12, .ref tn_13, .ref tn_14, .ref tn_15, .int tnv16, .ref tn_17, .ref tn_18, .ref tnt])), (tn_3, .inl (k 0, 10, .inl tng3)), (tn_4, .inl (k 0, 10, .inl tng4)), (tn_5, .inl (k 0, 10, .inl tng5)), (tn_6, .inl (k 0, 10, .inl tng6)), (tn_9, .inl (k 0, 4, .inl tng9)), (tn_10, .inl (k 0, 4, .inl tng10))]) [0, 1, 2, 3, 4, 5, 6, 7, 8, 9, 10] (by decide +kernel) rfl
        refine va_callv (va_runV (C := RX3) (As := [.ref tn, .int p1, .int x_33, .int x_46, .long x_48, .int 6]) (rest := []) ⟨hx, hb, hml, hown, hts⟩ (c_X3_weighLanes_4 l D k ob tn p1 x_33 x_46 x_48 oba ob_1 oba_0 o_39 o_40 o_41 o_42 tnv0 tnv1 tnv2 tn_3 tn_4 tn_5 tn_6 tnv7 tnv8 tn_9 tn_10 tnv11 tn_12 tn_13 tn_14 tn_15 tnv16 tn_17 tn_18 tnt tng3 tng4 tng5 tng6 tng9 tng10 H.size (show 0 ≤ p1.toInt ∧ p1.toInt ≤ 7 from by omega) hw_44 (show 0 ≤ tnv0.toInt ∧ tnv0.toInt ≤ 8 from by omega) (show 0 ≤ tnv2.toInt ∧ tnv2.toInt ≤ 10 from by omega) (show 0 ≤ tnv8.toInt ∧ tnv8.toInt ≤ 4 from by omega) (show 0 ≤ tnv11.toInt ∧ tnv11.toInt ≤ 6 from by omega) (show 0 ≤ tnv16.toInt ∧ tnv16.toInt ≤ 2 from by omega) hp_tng3_0 hp_tng4_0 hp_tng5_0 hp_tng6_0 hp_tng9_0 hp_tng10_0) (cwV 6 hts (gV tw_5_151 tw_5_153 tw_p_34 tw_1_12 tw_5_154) rfl rfl rfl hdV_X3_weighLanes ⟨Nat.le_of_ble_eq_true rfl, Nat.le_of_ble_eq_true rfl⟩) (cz_V hK hPc hDc hN (ci := 3) (q0 := 0) rfl rfl [.ref tn, .int p1, .int x_33, .int x_46, .long x_48, .int 6]) rfl rfl hl.1 rfl (lv_room (Nat.le_of_ble_eq_true rfl)) dX3_weighLanes_165 ⟨Nat.le_of_ble_eq_true rfl, Nat.le_of_ble_eq_true rfl⟩) hS (fun q _ h => hFc q h) hFc (fun uZ tZ H1 locs ht hvm hw hB hz1 hk1 hS => ?_)
        obtain ⟨o_51, o_52, o_53, o_54⟩ := uZ
        obtain ⟨hP1, hK1, hD1⟩ := hB
        rw [ht] at hP1
        obtain ⟨hP, hD⟩ := va_join (wr := []) (w1 := [(ob, .inr (3, [.ref oba, .ref ob_1])), (oba, .inr (1, [.ref oba_0, .int o_51, .int o_52])), (oba_0, .inl (k 0, 8, .inl o_53)), (ob_1, .inl (k 2, 1000, .inr (.inl o_54))), (tn, .inr (10, [.int tnv0, .int tnv1, .int tnv2, .ref tn_3, .ref tn_4, .ref tn_5, .ref tn_6, .int tnv7, .int tnv8, .ref tn_9, .ref tn_10, .int tnv11, .ref tn_12, .ref tn_13, .ref tn_14, .ref tn_15, .int tnv16, .ref tn_17, .ref tn_18, .ref tnt])), (tn_3, .inl (k 0, 10, .inl tng3)), (tn_4, .inl (k 0, 10, .inl tng4)), (tn_5, .inl (k 0, 10, .inl tng5)), (tn_6, .inl (k 0, 10, .inl tng6)), (tn_9, .inl (k 0, 4, .inl tng9)), (tn_10, .inl (k 0, 4, .inl tng10))]) hP hD [0, 1, 2, 3, 4, 5, 6, 7, 8, 9, 10] [] rfl rfl (by decide +kernel) (by decide +kernel) hk1 hFc hP1 hD1
        clear hK1 hP1 hD1 hPc hDc hFc
        clear hk1 hz1 ht hvm
        have hP : va_P D vwCl [(ob, .inr (3, [.ref oba, .ref ob_1])), (oba, .inr (1, [.ref oba_0, .int o_51, .int o_52])), (oba_0, .inl (k 0, 8, .inl o_53)), (ob_1, .inl (k 2, 1000, .inr (.inl o_54))), (tn, .inr (10, [.int tnv0, .int tnv1, .int tnv2, .ref tn_3, .ref tn_4, .ref tn_5, .ref tn_6, .int tnv7, .int tnv8, .ref tn_9, .ref tn_10, .int tnv11, .ref tn_12, .ref tn_13, .ref tn_14, .ref tn_15, .int tnv16, .ref tn_17, .ref tn_18, .ref tnt])), (tn_3, .inl (k 0, 10, .inl tng3)), (tn_4, .inl (k 0, 10, .inl tng4)), (tn_5, .inl (k 0, 10, .inl tng5)), (tn_6, .inl (k 0, 10, .inl tng6)), (tn_9, .inl (k 0, 4, .inl tng9)), (tn_10, .inl (k 0, 4, .inl tng10))] H1 := hP
        have hD : va_D A [(ob, .inr (3, [.ref oba, .ref ob_1])), (oba, .inr (1, [.ref oba_0, .int o_51, .int o_52])), (oba_0, .inl (k 0, 8, .inl o_53)), (ob_1, .inl (k 2, 1000, .inr (.inl o_54))), (tn, .inr (10, [.int tnv0, .int tnv1, .int tnv2, .ref tn_3, .ref tn_4, .ref tn_5, .ref tn_6, .int tnv7, .int tnv8, .ref tn_9, .ref tn_10, .int tnv11, .ref tn_12, .ref tn_13, .ref tn_14, .ref tn_15, .int tnv16, .ref tn_17, .ref tn_18, .ref tnt])), (tn_3, .inl (k 0, 10, .inl tng3)), (tn_4, .inl (k 0, 10, .inl tng4)), (tn_5, .inl (k 0, 10, .inl tng5)), (tn_6, .inl (k 0, 10, .inl tng6)), (tn_9, .inl (k 0, 4, .inl tng9)), (tn_10, .inl (k 0, 4, .inl tng10))] := hD
        generalize H1 = H at hP hS ⊢
        have hw_55 : (PR 8 1 0 0 1000000 o_53) := hw
        have hw_56 := hw_55
        clear hw
        obtain ⟨hP9, hD9⟩ := sub2 hP hD (ws' := [(ob, .inr (3, [.ref oba, .ref ob_1])), (oba, .inr (1, [.ref oba_0, .int o_51, .int o_52])), (oba_0, .inl (k 0, 8, .inl o_53)), (ob_1, .inl (k 2, 1000, .inr (.inl o_54))), (tn, .inr (10, [.int tnv0, .int tnv1, .int tnv2, .ref tn_3, .ref tn_4, .ref tn_5, .ref tn_6, .int tnv7, .int tnv8, .ref tn_9, .ref tn_10, .int tnv11, .ref tn_12, .ref tn_13, .ref tn_14, .ref tn_15, .int tnv16, .ref tn_17, .ref tn_18, .ref tnt])), (tn_3, .inl (k 0, 10, .inl tng3)), (tn_4, .inl (k 0, 10, .inl tng4)), (tn_5, .inl (k 0, 10, .inl tng5)), (tn_6, .inl (k 0, 10, .inl tng6)), (tn_9, .inl (k 0, 4, .inl tng9)), (tn_10, .inl (k 0, 4, .inl tng10))]) [0, 1, 2, 3, 4, 5, 6, 7, 8, 9, 10] (by decide +kernel) rfl
        exact W.vret hx hb hr (fun tZ ht hW => ⟨⟨(o_51, o_52, o_53, o_54), rfl, hw_56, by rw [ht]; exact hP9, va_K.moved hW.alike hK, hD9⟩, hS.F ht⟩) hS.2.2 dX3_weighLanes_168
  · skip
    have zh_11 : 1000 ≤ x_10.toInt := z_nlt h_11
    obtain ⟨hP9, hD9⟩ := sub2 hP hD (ws' := [(ob, .inr (3, [.ref oba, .ref ob_1])), (oba, .inr (1, [.ref oba_0, .int o_5, .int o_6])), (oba_0, .inl (k 0, 8, .inl o_7)), (ob_1, .inl (k 2, 1000, .inr (.inl obg1))), (tn, .inr (10, [.int tnv0, .int tnv1, .int tnv2, .ref tn_3, .ref tn_4, .ref tn_5, .ref tn_6, .int tnv7, .int tnv8, .ref tn_9, .ref tn_10, .int tnv11, .ref tn_12, .ref tn_13, .ref tn_14, .ref tn_15, .int tnv16, .ref tn_17, .ref tn_18, .ref tnt])), (tn_3, .inl (k 0, 10, .inl tng3)), (tn_4, .inl (k 0, 10, .inl tng4)), (tn_5, .inl (k 0, 10, .inl tng5)), (tn_6, .inl (k 0, 10, .inl tng6)), (tn_9, .inl (k 0, 4, .inl tng9)), (tn_10, .inl (k 0, 4, .inl tng10))]) [0, 3, 4, 1, 5, 6, 7, 8, 2, 9, 10] (by decide +kernel) rfl
    exact W.vret hx hb hr (fun tZ ht hW => ⟨⟨(o_5, o_6, o_7, obg1), rfl, hw_9, by rw [ht]; exact hP9, va_K.moved hW.alike hK, hD9⟩, hS.F ht⟩) hS.2.2 dX3_weighLanes_33
set_option maxHeartbeats 4000000 in
set_option maxRecDepth 100000 in
theorem c_X3_weighLanes_6 (l : Launch) (D : va_G) (k : Nat → ClassId) (ob : Nat) (tn : Nat) (p1 : Int32) (p2 : Int32) (p3 : Int32) (p4 : Int64) (oba : Nat) (ob_1 : Nat) (oba_0 : Nat) (obav1 : Int32) (obav2 : Int32) (obag0 : Nat → Int32) (obg1 : Nat → Int64) (tnv0 : Int32) (tnv1 : Int32) (tnv2 : Int32) (tn_3 : Nat) (tn_4 : Nat) (tn_5 : Nat) (tn_6 : Nat) (tnv7 : Int32) (tnv8 : Int32) (tn_9 : Nat) (tn_10 : Nat) (tnv11 : Int32) (tn_12 : Nat) (tn_13 : Nat) (tn_14 : Nat) (tn_15 : Nat) (tnv16 : Int32) (tn_17 : Nat) (tn_18 : Nat) (tnt : Nat) (tng3 : Nat → Int32) (tng4 : Nat → Int32) (tng5 : Nat → Int32) (tng6 : Nat → Int32) (tng9 : Nat → Int32) (tng10 : Nat → Int32) (sz : Nat) (h_p1 : 0 ≤ p1.toInt ∧ p1.toInt ≤ 7) (hp_obag0_0 : PR 8 1 0 0 1000000 obag0) (h_tnv0 : 0 ≤ tnv0.toInt ∧ tnv0.toInt ≤ 8) (h_tnv2 : 0 ≤ tnv2.toInt ∧ tnv2.toInt ≤ 10) (h_tnv8 : 0 ≤ tnv8.toInt ∧ tnv8.toInt ≤ 4) (h_tnv11 : 0 ≤ tnv11.toInt ∧ tnv11.toInt ≤ 6) (h_tnv16 : 0 ≤ tnv16.toInt ∧ tnv16.toInt ≤ 2) (hp_tng3_0 : PR 10 1 0 0 7 tng3) (hp_tng4_0 : PR 10 1 0 0 7 tng4) (hp_tng5_0 : PR 10 1 0 0 60 tng5) (hp_tng6_0 : PR 10 1 0 0 10 tng6) (hp_tng9_0 : PR 4 1 0 0 7 tng9) (hp_tng10_0 : PR 4 1 0 0 99 tng10) : Met l yX3_weighLanes (ww yX3_weighLanes cX3_weighLanes 14 none) ({ frames := 10, cells := 0, slots := 0, locals := 298 }) (Pre0 D k [(ob, .inr (3, [.ref oba, .ref ob_1])), (oba, .inr (1, [.ref oba_0, .int obav1, .int obav2])), (oba_0, .inl (k 0, 8, .inl obag0)), (ob_1, .inl (k 2, 1000, .inr (.inl obg1))), (tn, .inr (10, [.int tnv0, .int tnv1, .int tnv2, .ref tn_3, .ref tn_4, .ref tn_5, .ref tn_6, .int tnv7, .int tnv8, .ref tn_9, .ref tn_10, .int tnv11, .ref tn_12, .ref tn_13, .ref tn_14, .ref tn_15, .int tnv16, .ref tn_17, .ref tn_18, .ref tnt])), (tn_3, .inl (k 0, 10, .inl tng3)), (tn_4, .inl (k 0, 10, .inl tng4)), (tn_5, .inl (k 0, 10, .inl tng5)), (tn_6, .inl (k 0, 10, .inl tng6)), (tn_9, .inl (k 0, 4, .inl tng9)), (tn_10, .inl (k 0, 4, .inl tng10))] sz [.ref ob, .ref tn, .int p1, .int p2, .int p3, .long p4, .int 4]) (va_Qv (fun (u : Int32 × Int32 × (Nat → Int32) × (Nat → Int64)) => match u with | (obav1z, obav2z, obag0z, obg1z) => (PR 8 1 0 0 1000000 obag0z)) (fun (u : Int32 × Int32 × (Nat → Int32) × (Nat → Int64)) tZ => match u with | (obav1z, obav2z, obag0z, obg1z) => Bw D k (va_A [(ob, .inr (3, [.ref oba, .ref ob_1])), (oba, .inr (1, [.ref oba_0, .int obav1, .int obav2])), (oba_0, .inl (k 0, 8, .inl obag0)), (ob_1, .inl (k 2, 1000, .inr (.inl obg1))), (tn, .inr (10, [.int tnv0, .int tnv1, .int tnv2, .ref tn_3, .ref tn_4, .ref tn_5, .ref tn_6, .int tnv7, .int tnv8, .ref tn_9, .ref tn_10, .int tnv11, .ref tn_12, .ref tn_13, .ref tn_14, .ref tn_15, .int tnv16, .ref tn_17, .ref tn_18, .ref tnt])), (tn_3, .inl (k 0, 10, .inl tng3)), (tn_4, .inl (k 0, 10, .inl tng4)), (tn_5, .inl (k 0, 10, .inl tng5)), (tn_6, .inl (k 0, 10, .inl tng6)), (tn_9, .inl (k 0, 4, .inl tng9)), (tn_10, .inl (k 0, 4, .inl tng10))] sz) [(ob, .inr (3, [.ref oba, .ref ob_1])), (oba, .inr (1, [.ref oba_0, .int obav1z, .int obav2z])), (oba_0, .inl (k 0, 8, .inl obag0z)), (ob_1, .inl (k 2, 1000, .inr (.inl obg1z))), (tn, .inr (10, [.int tnv0, .int tnv1, .int tnv2, .ref tn_3, .ref tn_4, .ref tn_5, .ref tn_6, .int tnv7, .int tnv8, .ref tn_9, .ref tn_10, .int tnv11, .ref tn_12, .ref tn_13, .ref tn_14, .ref tn_15, .int tnv16, .ref tn_17, .ref tn_18, .ref tnt])), (tn_3, .inl (k 0, 10, .inl tng3)), (tn_4, .inl (k 0, 10, .inl tng4)), (tn_5, .inl (k 0, 10, .inl tng5)), (tn_6, .inl (k 0, 10, .inl tng6)), (tn_9, .inl (k 0, 4, .inl tng9)), (tn_10, .inl (k 0, 4, .inl tng10))] tZ) (va_A [(ob, .inr (3, [.ref oba, .ref ob_1])), (oba, .inr (1, [.ref oba_0, .int obav1, .int obav2])), (oba_0, .inl (k 0, 8, .inl obag0)), (ob_1, .inl (k 2, 1000, .inr (.inl obg1))), (tn, .inr (10, [.int tnv0, .int tnv1, .int tnv2, .ref tn_3, .ref tn_4, .ref tn_5, .ref tn_6, .int tnv7, .int tnv8, .ref tn_9, .ref tn_10, .int tnv11, .ref tn_12, .ref tn_13, .ref tn_14, .ref tn_15, .int tnv16, .ref tn_17, .ref tn_18, .ref tnt])), (tn_3, .inl (k 0, 10, .inl tng3)), (tn_4, .inl (k 0, 10, .inl tng4)), (tn_5, .inl (k 0, 10, .inl tng5)), (tn_6, .inl (k 0, 10, .inl tng6)), (tn_9, .inl (k 0, 4, .inl tng9)), (tn_10, .inl (k 0, 4, .inl tng10))] sz)) 0 0 (va_A [(ob, .inr (3, [.ref oba, .ref ob_1])), (oba, .inr (1, [.ref oba_0, .int obav1, .int obav2])), (oba_0, .inl (k 0, 8, .inl obag0)), (ob_1, .inl (k 2, 1000, .inr (.inl obg1))), (tn, .inr (10, [.int tnv0, .int tnv1, .int tnv2, .ref tn_3, .ref tn_4, .ref tn_5, .ref tn_6, .int tnv7, .int tnv8, .ref tn_9, .ref tn_10, .int tnv11, .ref tn_12, .ref tn_13, .ref tn_14, .ref tn_15, .int tnv16, .ref tn_17, .ref tn_18, .ref tnt])), (tn_3, .inl (k 0, 10, .inl tng3)), (tn_4, .inl (k 0, 10, .inl tng4)), (tn_5, .inl (k 0, 10, .inl tng5)), (tn_6, .inl (k 0, 10, .inl tng6)), (tn_9, .inl (k 0, 4, .inl tng9)), (tn_10, .inl (k 0, 4, .inl tng10))] sz) := by
  refine Met.ofW (cc := cX3_weighLanes) (maxL := 14) (ret := none) (by decide +kernel) rfl ?_
  intro p e s m args below meth c s₁ B hml hv
  obtain ⟨rfl, hsz, hP, hK, hD0, hN⟩ := hv
  have hx := B.exec
  have hb := B.bytes
  have hr := B.returns
  have hts : ∀ w ∈ TT, w.before _ s = true := fun w h => atoms_spec (ws := ww yX3_weighLanes cX3_weighLanes 14 none) B.pre w (List.mem_cons_of_mem _ h)
  have hown : s.vm.findClass RX3 = some m.cls := findClass_of_methodNamed B.named
  have hlocks := B.notSynchronized
  subst hsz
  have hD := hD0.self (sz := s.heap.size)
  generalize hAe : va_A [(ob, .inr (3, [.ref oba, .ref ob_1])), (oba, .inr (1, [.ref oba_0, .int obav1, .int obav2])), (oba_0, .inl (k 0, 8, .inl obag0)), (ob_1, .inl (k 2, 1000, .inr (.inl obg1))), (tn, .inr (10, [.int tnv0, .int tnv1, .int tnv2, .ref tn_3, .ref tn_4, .ref tn_5, .ref tn_6, .int tnv7, .int tnv8, .ref tn_9, .ref tn_10, .int tnv11, .ref tn_12, .ref tn_13, .ref tn_14, .ref tn_15, .int tnv16, .ref tn_17, .ref tn_18, .ref tnt])), (tn_3, .inl (k 0, 10, .inl tng3)), (tn_4, .inl (k 0, 10, .inl tng4)), (tn_5, .inl (k 0, 10, .inl tng5)), (tn_6, .inl (k 0, 10, .inl tng6)), (tn_9, .inl (k 0, 4, .inl tng9)), (tn_10, .inl (k 0, 4, .inl tng10))] s.heap.size = A at hD ⊢
  have hA : ∀ q : Nat, s.heap.size ≤ q → A q := fun q h => by rw [← hAe]; exact Or.inr h
  have hS : va_S A s.heap s.heap [] := va_S.rf
  have hl := lv_entry ([.ref ob, .ref tn, .int p1, .int p2, .int p3, .long p4, .int 4]) (n := 14) (Nat.le_of_ble_eq_true rfl)
  rw [lg_entry_eq]
  generalize (lg_sl ([.ref ob, .ref tn, .int p1, .int p2, .int p3, .long p4, .int 4]) ++ List.replicate (14 - (lg_sl ([.ref ob, .ref tn, .int p1, .int p2, .int p3, .long p4, .int 4])).length) Slot.unset).toArray = ls at hl ⊢
  have hl : lv_has ls 14 [(0, .ref ob), (1, .ref tn), (2, .int p1), (3, .int p2), (4, .int p3), (5, .long p4), (7, .int 4)] := hl
  refine lv_aload_n hx hb dX3_weighLanes_0 rfl (lv_at hl 0 rfl) ?_
  refine va_get (D := D) (ci := 3) (v := .ref oba) (C := RX3) (T := TX3) (N := 2) hx hb hts iT_X3 hown hK hP 0 rfl rfl 0 (by decide) (hts _ tw_2_163) (fun _ h9 => h9) rfl dX3_weighLanes_1 ?_
  refine lv_aload_n hx hb dX3_weighLanes_4 rfl (lv_at hl 1 rfl) ?_
  refine lv_aload_n hx hb dX3_weighLanes_5 rfl (lv_at hl 1 rfl) ?_
  obtain ⟨hPc, hDc, hFc⟩ := sub3 hP hD hS hA (ws' := [(tn, .inr (10, [.int tnv0, .int tnv1, .int tnv2, .ref tn_3, .ref tn_4, .ref tn_5, .ref tn_6, .int tnv7, .int tnv8, .ref tn_9, .ref tn_10, .int tnv11, .ref tn_12, .ref tn_13, .ref tn_14, .ref tn_15, .int tnv16, .ref tn_17, .ref tn_18, .ref tnt]))]) [4] (by decide +kernel) rfl
  refine va_calli (va_runV (C := RX10) (As := []) (rest := [.ref tn, .ref oba]) ⟨hx, hb, hml, hown, hts⟩ (c_X10_openLanes l D k tn tnv0 tnv1 tnv2 tn_3 tn_4 tn_5 tn_6 tnv7 tnv8 tn_9 tn_10 tnv11 tn_12 tn_13 tn_14 tn_15 tnv16 tn_17 tn_18 tnt s.heap.size (show 0 ≤ tnv0.toInt ∧ tnv0.toInt ≤ 8 from by omega) (show 0 ≤ tnv2.toInt ∧ tnv2.toInt ≤ 10 from by omega) (show 0 ≤ tnv8.toInt ∧ tnv8.toInt ≤ 4 from by omega) (show 0 ≤ tnv11.toInt ∧ tnv11.toInt ≤ 6 from by omega) (show 0 ≤ tnv16.toInt ∧ tnv16.toInt ≤ 2 from by omega)) (cwV 0 hts (gV tw_5_155 tw_3_180 tw_3_181 tw_1_3 tw_3_182) rfl rfl rfl hdV_X10_openLanes ⟨Nat.le_of_ble_eq_true rfl, Nat.le_of_ble_eq_true rfl⟩) (cz_V hK hPc hDc hN (ci := 10) (q0 := 0) rfl rfl []) rfl rfl hl.1 rfl (lv_room (Nat.le_of_ble_eq_true rfl)) dX3_weighLanes_6 ⟨Nat.le_of_ble_eq_true rfl, Nat.le_of_ble_eq_true rfl⟩) hS (fun q _ h => hFc q h) hFc (fun r_1 uZ tZ H1 locs ht hvm hw hB hz1 hk1 hS => ?_)
  obtain ⟨hP1, hK1, hD1⟩ := hB
  rw [ht] at hP1
  obtain ⟨hP, hD⟩ := va_join (wr := [(ob, .inr (3, [.ref oba, .ref ob_1])), (oba, .inr (1, [.ref oba_0, .int obav1, .int obav2])), (oba_0, .inl (k 0, 8, .inl obag0)), (ob_1, .inl (k 2, 1000, .inr (.inl obg1))), (tn_3, .inl (k 0, 10, .inl tng3)), (tn_4, .inl (k 0, 10, .inl tng4)), (tn_5, .inl (k 0, 10, .inl tng5)), (tn_6, .inl (k 0, 10, .inl tng6)), (tn_9, .inl (k 0, 4, .inl tng9)), (tn_10, .inl (k 0, 4, .inl tng10))]) (w1 := [(tn, .inr (10, [.int tnv0, .int tnv1, .int tnv2, .ref tn_3, .ref tn_4, .ref tn_5, .ref tn_6, .int tnv7, .int tnv8, .ref tn_9, .ref tn_10, .int tnv11, .ref tn_12, .ref tn_13, .ref tn_14, .ref tn_15, .int tnv16, .ref tn_17, .ref tn_18, .ref tnt]))]) hP hD [4] [0, 1, 2, 3, 5, 6, 7, 8, 9, 10] rfl rfl (by decide +kernel) (by decide +kernel) hk1 hFc hP1 hD1
  clear hK1 hP1 hD1 hPc hDc hFc
  clear hk1 hz1 ht hvm
  have hP : va_P D vwCl [(ob, .inr (3, [.ref oba, .ref ob_1])), (oba, .inr (1, [.ref oba_0, .int obav1, .int obav2])), (oba_0, .inl (k 0, 8, .inl obag0)), (ob_1, .inl (k 2, 1000, .inr (.inl obg1))), (tn_3, .inl (k 0, 10, .inl tng3)), (tn_4, .inl (k 0, 10, .inl tng4)), (tn_5, .inl (k 0, 10, .inl tng5)), (tn_6, .inl (k 0, 10, .inl tng6)), (tn_9, .inl (k 0, 4, .inl tng9)), (tn_10, .inl (k 0, 4, .inl tng10)), (tn, .inr (10, [.int tnv0, .int tnv1, .int tnv2, .ref tn_3, .ref tn_4, .ref tn_5, .ref tn_6, .int tnv7, .int tnv8, .ref tn_9, .ref tn_10, .int tnv11, .ref tn_12, .ref tn_13, .ref tn_14, .ref tn_15, .int tnv16, .ref tn_17, .ref tn_18, .ref tnt]))] H1 := hP
  have hD : va_D A [(ob, .inr (3, [.ref oba, .ref ob_1])), (oba, .inr (1, [.ref oba_0, .int obav1, .int obav2])), (oba_0, .inl (k 0, 8, .inl obag0)), (ob_1, .inl (k 2, 1000, .inr (.inl obg1))), (tn_3, .inl (k 0, 10, .inl tng3)), (tn_4, .inl (k 0, 10, .inl tng4)), (tn_5, .inl (k 0, 10, .inl tng5)), (tn_6, .inl (k 0, 10, .inl tng6)), (tn_9, .inl (k 0, 4, .inl tng9)), (tn_10, .inl (k 0, 4, .inl tng10)), (tn, .inr (10, [.int tnv0, .int tnv1, .int tnv2, .ref tn_3, .ref tn_4, .ref tn_5, .ref tn_6, .int tnv7, .int tnv8, .ref tn_9, .ref tn_10, .int tnv11, .ref tn_12, .ref tn_13, .ref tn_14, .ref tn_15, .int tnv16, .ref tn_17, .ref tn_18, .ref tnt]))] := hD
  generalize H1 = H at hP hS ⊢
  have hw_2 : (0 ≤ r_1.toInt ∧ r_1.toInt ≤ 1023) := hw
  have hw_3 := hw_2
  clear hw
  refine lv_iload hx hb dX3_weighLanes_9 (lv_at hl 4 rfl) ?_
  obtain ⟨hPc, hDc, hFc⟩ := sub3 hP hD hS hA (ws' := [(oba, .inr (1, [.ref oba_0, .int obav1, .int obav2])), (oba_0, .inl (k 0, 8, .inl obag0)), (tn, .inr (10, [.int tnv0, .int tnv1, .int tnv2, .ref tn_3, .ref tn_4, .ref tn_5, .ref tn_6, .int tnv7, .int tnv8, .ref tn_9, .ref tn_10, .int tnv11, .ref tn_12, .ref tn_13, .ref tn_14, .ref tn_15, .int tnv16, .ref tn_17, .ref tn_18, .ref tnt])), (tn_3, .inl (k 0, 10, .inl tng3)), (tn_4, .inl (k 0, 10, .inl tng4)), (tn_5, .inl (k 0, 10, .inl tng5)), (tn_9, .inl (k 0, 4, .inl tng9)), (tn_10, .inl (k 0, 4, .inl tng10))]) [1, 2, 10, 4, 5, 6, 8, 9] (by decide +kernel) rfl
  refine va_callv (va_runV (C := RX1) (As := [.ref tn, .int r_1, .int p3]) (rest := []) ⟨hx, hb, hml, hown, hts⟩ (c_X1_fall l D k oba tn r_1 p3 oba_0 obav1 obav2 obag0 tnv0 tnv1 tnv2 tn_3 tn_4 tn_5 tn_6 tnv7 tnv8 tn_9 tn_10 tnv11 tn_12 tn_13 tn_14 tn_15 tnv16 tn_17 tn_18 tnt tng3 tng4 tng5 tng9 tng10 H.size hp_obag0_0 (show 0 ≤ tnv0.toInt ∧ tnv0.toInt ≤ 8 from by omega) (show 0 ≤ tnv2.toInt ∧ tnv2.toInt ≤ 10 from by omega) (show 0 ≤ tnv8.toInt ∧ tnv8.toInt ≤ 4 from by omega) (show 0 ≤ tnv11.toInt ∧ tnv11.toInt ≤ 6 from by omega) (show 0 ≤ tnv16.toInt ∧ tnv16.toInt ≤ 2 from by omega) hp_tng3_0 hp_tng4_0 hp_tng5_0 hp_tng9_0 hp_tng10_0) (cwV 3 hts (gV tw_5_156 tw_3_184 tw_3_185 tw_1_6 tw_3_186) rfl rfl rfl hdV_X1_fall ⟨Nat.le_of_ble_eq_true rfl, Nat.le_of_ble_eq_true rfl⟩) (cz_V hK hPc hDc hN (ci := 1) (q0 := 0) rfl rfl [.ref tn, .int r_1, .int p3]) rfl rfl hl.1 rfl (lv_room (Nat.le_of_ble_eq_true rfl)) dX3_weighLanes_11 ⟨Nat.le_of_ble_eq_true rfl, Nat.le_of_ble_eq_true rfl⟩) hS (fun q _ h => hFc q h) hFc (fun uZ tZ H1 locs ht hvm hw hB hz1 hk1 hS => ?_)
  obtain ⟨o_5, o_6, o_7⟩ := uZ
  obtain ⟨hP1, hK1, hD1⟩ := hB
  rw [ht] at hP1
  obtain ⟨hP, hD⟩ := va_join (wr := [(ob, .inr (3, [.ref oba, .ref ob_1])), (ob_1, .inl (k 2, 1000, .inr (.inl obg1))), (tn_6, .inl (k 0, 10, .inl tng6))]) (w1 := [(oba, .inr (1, [.ref oba_0, .int o_5, .int o_6])), (oba_0, .inl (k 0, 8, .inl o_7)), (tn, .inr (10, [.int tnv0, .int tnv1, .int tnv2, .ref tn_3, .ref tn_4, .ref tn_5, .ref tn_6, .int tnv7, .int tnv8, .ref tn_9, .ref tn_10, .int tnv11, .ref tn_12, .ref tn_13, .ref tn_14, .ref tn_15, .int tnv16, .ref tn_17, .ref tn_18, .ref tnt])), (tn_3, .inl (k 0, 10, .inl tng3)), (tn_4, .inl (k 0, 10, .inl tng4)), (tn_5, .inl (k 0, 10, .inl tng5)), (tn_9, .inl (k 0, 4, .inl tng9)), (tn_10, .inl (k 0, 4, .inl tng10))]) hP hD [1, 2, 10, 4, 5, 6, 8, 9] [0, 3, 7] rfl rfl (by decide +kernel) (by decide +kernel) hk1 hFc hP1 hD1
  clear hK1 hP1 hD1 hPc hDc hFc
  clear hk1 hz1 ht hvm
  have hP : va_P D vwCl [(ob, .inr (3, [.ref oba, .ref ob_1])), (ob_1, .inl (k 2, 1000, .inr (.inl obg1))), (tn_6, .inl (k 0, 10, .inl tng6)), (oba, .inr (1, [.ref oba_0, .int o_5, .int o_6])), (oba_0, .inl (k 0, 8, .inl o_7)), (tn, .inr (10, [.int tnv0, .int tnv1, .int tnv2, .ref tn_3, .ref tn_4, .ref tn_5, .ref tn_6, .int tnv7, .int tnv8, .ref tn_9, .ref tn_10, .int tnv11, .ref tn_12, .ref tn_13, .ref tn_14, .ref tn_15, .int tnv16, .ref tn_17, .ref tn_18, .ref tnt])), (tn_3, .inl (k 0, 10, .inl tng3)), (tn_4, .inl (k 0, 10, .inl tng4)), (tn_5, .inl (k 0, 10, .inl tng5)), (tn_9, .inl (k 0, 4, .inl tng9)), (tn_10, .inl (k 0, 4, .inl tng10))] H1 := hP
  have hD : va_D A [(ob, .inr (3, [.ref oba, .ref ob_1])), (ob_1, .inl (k 2, 1000, .inr (.inl obg1))), (tn_6, .inl (k 0, 10, .inl tng6)), (oba, .inr (1, [.ref oba_0, .int o_5, .int o_6])), (oba_0, .inl (k 0, 8, .inl o_7)), (tn, .inr (10, [.int tnv0, .int tnv1, .int tnv2, .ref tn_3, .ref tn_4, .ref tn_5, .ref tn_6, .int tnv7, .int tnv8, .ref tn_9, .ref tn_10, .int tnv11, .ref tn_12, .ref tn_13, .ref tn_14, .ref tn_15, .int tnv16, .ref tn_17, .ref tn_18, .ref tnt])), (tn_3, .inl (k 0, 10, .inl tng3)), (tn_4, .inl (k 0, 10, .inl tng4)), (tn_5, .inl (k 0, 10, .inl tng5)), (tn_9, .inl (k 0, 4, .inl tng9)), (tn_10, .inl (k 0, 4, .inl tng10))] := hD
  generalize H1 = H at hP hS ⊢
  have hw_8 : (PR 8 1 0 0 1000000 o_7) := hw
  have hw_9 := hw_8
  clear hw
  refine lv_aload_n hx hb dX3_weighLanes_14 rfl (lv_at hl 0 rfl) ?_
  refine va_get (D := D) (ci := 3) (v := .ref oba) (C := RX3) (T := TX3) (N := 2) hx hb hts iT_X3 hown hK hP 0 rfl rfl 0 (by decide) (hts _ tw_2_163) (fun _ h9 => h9) rfl dX3_weighLanes_15 ?_
  refine va_get (D := D) (ci := 1) (v := .ref oba_0) (C := RX1) (T := TX1) (N := 3) hx hb hts iT_X1 hown hK hP 3 rfl rfl 0 (by decide) (hts _ tw_2_21) (fun _ h9 => h9) rfl dX3_weighLanes_18 ?_
  refine lv_iload_n hx hb dX3_weighLanes_21 rfl (lv_at hl 2 rfl) ?_
  refine va_iald hx hb hK hP 4 0 rfl rfl (z_in (by omega) (by omega)) dX3_weighLanes_22 ?_
  refine lv_topi (fun x_10 ex_10 => ?_)
  have zx_10r0 : 0 ≤ x_10.toInt ∧ x_10.toInt ≤ 1000000 := by rw [ex_10]; exact PR.ld hw_9 (by omega) (by omega) (by omega)
  refine lv_istore (lv' := [(8, .int x_10), (0, .ref ob), (1, .ref tn), (2, .int p1), (3, .int p2), (4, .int p3), (5, .long p4), (7, .int 4)]) hx hb dX3_weighLanes_23 hl (by decide) rfl (fun ls hl => ?_)
  refine lv_iload hx hb dX3_weighLanes_25 (lv_at hl 0 rfl) ?_
  refine lv_sipush (v := 1000) hx hb dX3_weighLanes_27 (by decide) ?_
  refine lv_icmp_lt (tgt := 34) hx hb dX3_weighLanes_30 (by decide) (fun h_11 => ?_) (fun h_11 => ?_)
  · skip
    have zh_11 : x_10.toInt < 1000 := z_lt h_11
    refine lv_aload_n hx hb dX3_weighLanes_34 rfl (lv_at hl 1 rfl) ?_
    refine va_get (D := D) (ci := 3) (v := .ref oba) (C := RX3) (T := TX3) (N := 2) hx hb hts iT_X3 hown hK hP 0 rfl rfl 0 (by decide) (hts _ tw_2_163) (fun _ h9 => h9) rfl dX3_weighLanes_35 ?_
    refine lv_aload_n hx hb dX3_weighLanes_38 rfl (lv_at hl 2 rfl) ?_
    refine lv_iload_n hx hb dX3_weighLanes_39 rfl (lv_at hl 3 rfl) ?_
    obtain ⟨hPc, hDc, hFc⟩ := sub3 hP hD hS hA (ws' := [(oba, .inr (1, [.ref oba_0, .int o_5, .int o_6])), (oba_0, .inl (k 0, 8, .inl o_7)), (tn, .inr (10, [.int tnv0, .int tnv1, .int tnv2, .ref tn_3, .ref tn_4, .ref tn_5, .ref tn_6, .int tnv7, .int tnv8, .ref tn_9, .ref tn_10, .int tnv11, .ref tn_12, .ref tn_13, .ref tn_14, .ref tn_15, .int tnv16, .ref tn_17, .ref tn_18, .ref tnt])), (tn_3, .inl (k 0, 10, .inl tng3)), (tn_4, .inl (k 0, 10, .inl tng4)), (tn_5, .inl (k 0, 10, .inl tng5)), (tn_9, .inl (k 0, 4, .inl tng9)), (tn_10, .inl (k 0, 4, .inl tng10))]) [3, 4, 5, 6, 7, 8, 9, 10] (by decide +kernel) rfl
    refine va_calli (va_runV (C := RX1) (As := [.ref tn, .int p1]) (rest := []) ⟨hx, hb, hml, hown, hts⟩ (c_X1_wayTo l D k oba tn p1 oba_0 o_5 o_6 o_7 tnv0 tnv1 tnv2 tn_3 tn_4 tn_5 tn_6 tnv7 tnv8 tn_9 tn_10 tnv11 tn_12 tn_13 tn_14 tn_15 tnv16 tn_17 tn_18 tnt tng3 tng4 tng5 tng9 tng10 H.size (show 0 ≤ p1.toInt ∧ p1.toInt ≤ 7 from by omega) hw_9 (show 0 ≤ tnv0.toInt ∧ tnv0.toInt ≤ 8 from by omega) (show 0 ≤ tnv2.toInt ∧ tnv2.toInt ≤ 10 from by omega) (show 0 ≤ tnv8.toInt ∧ tnv8.toInt ≤ 4 from by omega) (show 0 ≤ tnv11.toInt ∧ tnv11.toInt ≤ 6 from by omega) (show 0 ≤ tnv16.toInt ∧ tnv16.toInt ≤ 2 from by omega) hp_tng3_0 hp_tng4_0 hp_tng5_0 hp_tng9_0 hp_tng10_0) (cwV 2 hts (gV tw_5_157 tw_4_96 tw_4_97 tw_1_6 tw_4_98) rfl rfl rfl hdV_X1_wayTo ⟨Nat.le_of_ble_eq_true rfl, Nat.le_of_ble_eq_true rfl⟩) (cz_V hK hPc hDc hN (ci := 1) (q0 := 0) rfl rfl [.ref tn, .int p1]) rfl rfl hl.1 rfl (lv_room (Nat.le_of_ble_eq_true rfl)) dX3_weighLanes_40 ⟨Nat.le_of_ble_eq_true rfl, Nat.le_of_ble_eq_true rfl⟩) hS (fun q _ h => hFc q h) hFc (fun r_12 uZ tZ H1 locs ht hvm hw hB hz1 hk1 hS => ?_)
    obtain ⟨hP1, hK1, hD1⟩ := hB
    rw [ht] at hP1
    obtain ⟨hP, hD⟩ := va_join (wr := [(ob, .inr (3, [.ref oba, .ref ob_1])), (ob_1, .inl (k 2, 1000, .inr (.inl obg1))), (tn_6, .inl (k 0, 10, .inl tng6))]) (w1 := [(oba, .inr (1, [.ref oba_0, .int o_5, .int o_6])), (oba_0, .inl (k 0, 8, .inl o_7)), (tn, .inr (10, [.int tnv0, .int tnv1, .int tnv2, .ref tn_3, .ref tn_4, .ref tn_5, .ref tn_6, .int tnv7, .int tnv8, .ref tn_9, .ref tn_10, .int tnv11, .ref tn_12, .ref tn_13, .ref tn_14, .ref tn_15, .int tnv16, .ref tn_17, .ref tn_18, .ref tnt])), (tn_3, .inl (k 0, 10, .inl tng3)), (tn_4, .inl (k 0, 10, .inl tng4)), (tn_5, .inl (k 0, 10, .inl tng5)), (tn_9, .inl (k 0, 4, .inl tng9)), (tn_10, .inl (k 0, 4, .inl tng10))]) hP hD [3, 4, 5, 6, 7, 8, 9, 10] [0, 1, 2] rfl rfl (by decide +kernel) (by decide +kernel) hk1 hFc hP1 hD1
    clear hK1 hP1 hD1 hPc hDc hFc
    clear hk1 hz1 ht hvm
    have hP : va_P D vwCl [(ob, .inr (3, [.ref oba, .ref ob_1])), (ob_1, .inl (k 2, 1000, .inr (.inl obg1))), (tn_6, .inl (k 0, 10, .inl tng6)), (oba, .inr (1, [.ref oba_0, .int o_5, .int o_6])), (oba_0, .inl (k 0, 8, .inl o_7)), (tn, .inr (10, [.int tnv0, .int tnv1, .int tnv2, .ref tn_3, .ref tn_4, .ref tn_5, .ref tn_6, .int tnv7, .int tnv8, .ref tn_9, .ref tn_10, .int tnv11, .ref tn_12, .ref tn_13, .ref tn_14, .ref tn_15, .int tnv16, .ref tn_17, .ref tn_18, .ref tnt])), (tn_3, .inl (k 0, 10, .inl tng3)), (tn_4, .inl (k 0, 10, .inl tng4)), (tn_5, .inl (k 0, 10, .inl tng5)), (tn_9, .inl (k 0, 4, .inl tng9)), (tn_10, .inl (k 0, 4, .inl tng10))] H1 := hP
    have hD : va_D A [(ob, .inr (3, [.ref oba, .ref ob_1])), (ob_1, .inl (k 2, 1000, .inr (.inl obg1))), (tn_6, .inl (k 0, 10, .inl tng6)), (oba, .inr (1, [.ref oba_0, .int o_5, .int o_6])), (oba_0, .inl (k 0, 8, .inl o_7)), (tn, .inr (10, [.int tnv0, .int tnv1, .int tnv2, .ref tn_3, .ref tn_4, .ref tn_5, .ref tn_6, .int tnv7, .int tnv8, .ref tn_9, .ref tn_10, .int tnv11, .ref tn_12, .ref tn_13, .ref tn_14, .ref tn_15, .int tnv16, .ref tn_17, .ref tn_18, .ref tnt])), (tn_3, .inl (k 0, 10, .inl tng3)), (tn_4, .inl (k 0, 10, .inl tng4)), (tn_5, .inl (k 0, 10, .inl tng5)), (tn_9, .inl (k 0, 4, .inl tng9)), (tn_10, .inl (k 0, 4, .inl tng10))] := hD
    generalize H1 = H at hP hS ⊢
    have hw_13 : (0 ≤ r_12.toInt ∧ r_12.toInt ≤ 1023) := hw
    have hw_14 := hw_13
    clear hw
    refine lv_iload_n hx hb dX3_weighLanes_43 rfl (lv_at hl 4 rfl) ?_
    refine lv_iconst (v := (-1)) hx hb dX3_weighLanes_44 (by decide) ?_
    refine lv_ixor hx hb dX3_weighLanes_45 ?_
    refine lv_topi (fun x_15 ex_15 => ?_)
    have zrp2 := z_rng p2
    refine lv_iand hx hb dX3_weighLanes_46 ?_
    refine lv_topi (fun x_16 ex_16 => ?_)
    have zrx_15 := z_rng x_15
    have zx_16 : 0 ≤ x_16.toInt ∧ x_16.toInt ≤ r_12.toInt := by rw [ex_16]; exact z_andL (by omega)
    refine lv_istore (lv' := [(9, .int x_16), (8, .int x_10), (0, .ref ob), (1, .ref tn), (2, .int p1), (3, .int p2), (4, .int p3), (5, .long p4), (7, .int 4)]) hx hb dX3_weighLanes_47 hl (by decide) rfl (fun ls hl => ?_)
    refine lv_iload hx hb dX3_weighLanes_49 (lv_at hl 0 rfl) ?_
    refine lv_iload hx hb dX3_weighLanes_51 (lv_at hl 0 rfl) ?_
    refine lv_ineg hx hb dX3_weighLanes_53 ?_
    refine lv_topi (fun x_17 ex_17 => ?_)
    refine lv_iand hx hb dX3_weighLanes_54 ?_
    refine lv_topi (fun x_18 ex_18 => ?_)
    have zrx_17 := z_rng x_17
    have zx_18 : 0 ≤ x_18.toInt ∧ x_18.toInt ≤ x_16.toInt := by rw [ex_18]; exact z_andL (by omega)
    refine lv_iconst (v := 1) hx hb dX3_weighLanes_55 (by decide) ?_
    refine lv_isub hx hb dX3_weighLanes_56 ?_
    refine lv_topi (fun x_19 ex_19 => ?_)
    have zx_19 : x_19.toInt = x_18.toInt - 1 := by rw [ex_19]; exact z_sub rfl rfl (by omega) (by omega)
    obtain ⟨hPc, hDc, hFc⟩ := sub3 hP hD hS hA (ws' := []) [] (by decide +kernel) rfl
    refine va_calli (va_runS (As := [.int x_19]) (rest := []) ⟨hx, hb, hml, hown, hts⟩ (c_J6_bitCount_0f7a4 l D k x_19 H.size) (va_cwS 1 hts (gS tw_5_158 tw_4_101 tw_1_20 tw_4_102) rfl rfl rfl hdS_J6_bitCount_0f7a4 ⟨Nat.le_of_ble_eq_true rfl, Nat.le_of_ble_eq_true rfl⟩) (cz_S hK hPc hDc hN [.int x_19]) rfl rfl hl.1 rfl (lv_room (Nat.le_of_ble_eq_true rfl)) dX3_weighLanes_57 ⟨Nat.le_of_ble_eq_true rfl, Nat.le_of_ble_eq_true rfl⟩) hS (fun q _ h => hFc q h) hFc (fun r_20 uZ tZ H1 locs ht hvm hw hB hz1 hk1 hS => ?_)
    obtain ⟨hP1, hK1, hD1⟩ := hB
    rw [ht] at hP1
    obtain ⟨hP, hD⟩ := va_join (wr := [(ob, .inr (3, [.ref oba, .ref ob_1])), (ob_1, .inl (k 2, 1000, .inr (.inl obg1))), (tn_6, .inl (k 0, 10, .inl tng6)), (oba, .inr (1, [.ref oba_0, .int o_5, .int o_6])), (oba_0, .inl (k 0, 8, .inl o_7)), (tn, .inr (10, [.int tnv0, .int tnv1, .int tnv2, .ref tn_3, .ref tn_4, .ref tn_5, .ref tn_6, .int tnv7, .int tnv8, .ref tn_9, .ref tn_10, .int tnv11, .ref tn_12, .ref tn_13, .ref tn_14, .ref tn_15, .int tnv16, .ref tn_17, .ref tn_18, .ref tnt])), (tn_3, .inl (k 0, 10, .inl tng3)), (tn_4, .inl (k 0, 10, .inl tng4)), (tn_5, .inl (k 0, 10, .inl tng5)), (tn_9, .inl (k 0, 4, .inl tng9)), (tn_10, .inl (k 0, 4, .inl tng10))]) (w1 := []) hP hD [] [0, 1, 2, 3, 4, 5, 6, 7, 8, 9, 10] rfl rfl (by decide +kernel) (by decide +kernel) hk1 hFc hP1 hD1
    clear hK1 hP1 hD1 hPc hDc hFc
    clear hk1 hz1 ht hvm
    have hP : va_P D vwCl [(ob, .inr (3, [.ref oba, .ref ob_1])), (ob_1, .inl (k 2, 1000, .inr (.inl obg1))), (tn_6, .inl (k 0, 10, .inl tng6)), (oba, .inr (1, [.ref oba_0, .int o_5, .int o_6])), (oba_0, .inl (k 0, 8, .inl o_7)), (tn, .inr (10, [.int tnv0, .int tnv1, .int tnv2, .ref tn_3, .ref tn_4, .ref tn_5, .ref tn_6, .int tnv7, .int tnv8, .ref tn_9, .ref tn_10, .int tnv11, .ref tn_12, .ref tn_13, .ref tn_14, .ref tn_15, .int tnv16, .ref tn_17, .ref tn_18, .ref tnt])), (tn_3, .inl (k 0, 10, .inl tng3)), (tn_4, .inl (k 0, 10, .inl tng4)), (tn_5, .inl (k 0, 10, .inl tng5)), (tn_9, .inl (k 0, 4, .inl tng9)), (tn_10, .inl (k 0, 4, .inl tng10))] H1 := hP
    have hD : va_D A [(ob, .inr (3, [.ref oba, .ref ob_1])), (ob_1, .inl (k 2, 1000, .inr (.inl obg1))), (tn_6, .inl (k 0, 10, .inl tng6)), (oba, .inr (1, [.ref oba_0, .int o_5, .int o_6])), (oba_0, .inl (k 0, 8, .inl o_7)), (tn, .inr (10, [.int tnv0, .int tnv1, .int tnv2, .ref tn_3, .ref tn_4, .ref tn_5, .ref tn_6, .int tnv7, .int tnv8, .ref tn_9, .ref tn_10, .int tnv11, .ref tn_12, .ref tn_13, .ref tn_14, .ref tn_15, .int tnv16, .ref tn_17, .ref tn_18, .ref tnt])), (tn_3, .inl (k 0, 10, .inl tng3)), (tn_4, .inl (k 0, 10, .inl tng4)), (tn_5, .inl (k 0, 10, .inl tng5)), (tn_9, .inl (k 0, 4, .inl tng9)), (tn_10, .inl (k 0, 4, .inl tng10))] := hD
    generalize H1 = H at hP hS ⊢
    have hw_21 : (0 ≤ r_20.toInt ∧ r_20.toInt ≤ 63) := hw
    have hw_22 := hw_21
    clear hw
    refine lv_istore (lv' := [(10, .int r_20), (9, .int x_16), (8, .int x_10), (0, .ref ob), (1, .ref tn), (2, .int p1), (3, .int p2), (4, .int p3), (5, .long p4), (7, .int 4)]) hx hb dX3_weighLanes_60 hl (by decide) rfl (fun ls hl => ?_)
    refine lv_iload hx hb dX3_weighLanes_62 (lv_at hl 1 rfl) ?_
    refine lv_if_eq (tgt := 81) hx hb dX3_weighLanes_64 (by decide) (fun h_23 => ?_) (fun h_23 => ?_)
    · skip
      have zh_23 : x_16.toInt = 0 := z_eq h_23
      refine lv_aload_n hx hb dX3_weighLanes_81 rfl (lv_at hl 3 rfl) ?_
      refine va_get (D := D) (ci := 3) (v := .ref ob_1) (C := RX3) (T := TX3) (N := 2) hx hb hts iT_X3 hown hK hP 0 rfl rfl 1 (by decide) (hts _ tw_2_164) (fun _ h9 => h9) rfl dX3_weighLanes_82 ?_
      refine lv_iload hx hb dX3_weighLanes_85 (lv_at hl 2 rfl) ?_
      refine lv_dup2_11 hx hb dX3_weighLanes_87 rfl rfl ?_
      refine va_lald hx hb hK hP 1 2 rfl rfl (z_in (by omega) (by omega)) dX3_weighLanes_88 ?_
      refine lv_topl (fun x_24 ex_24 => ?_)
      refine lv_lload hx hb dX3_weighLanes_89 (lv_at hl 8 rfl) ?_
      refine lv_ladd hx hb dX3_weighLanes_91 ?_
      refine lv_topl (fun x_25 ex_25 => ?_)
      refine va_last hx hb hK hP hD hS 1 2 rfl rfl (z_in (by omega) (by omega)) dX3_weighLanes_92 (fun H locs hP hD hS => ?_)
      obtain ⟨g_26, eg_26⟩ : ∃ z : Nat → Int64, vp_updL obg1 x_10.toNatClampNeg x_25 = z := ⟨_, rfl⟩
      have hP : va_P D vwCl [(ob, .inr (3, [.ref oba, .ref ob_1])), (ob_1, .inl (k 2, 1000, .inr (.inl (vp_updL obg1 x_10.toNatClampNeg x_25)))), (tn_6, .inl (k 0, 10, .inl tng6)), (oba, .inr (1, [.ref oba_0, .int o_5, .int o_6])), (oba_0, .inl (k 0, 8, .inl o_7)), (tn, .inr (10, [.int tnv0, .int tnv1, .int tnv2, .ref tn_3, .ref tn_4, .ref tn_5, .ref tn_6, .int tnv7, .int tnv8, .ref tn_9, .ref tn_10, .int tnv11, .ref tn_12, .ref tn_13, .ref tn_14, .ref tn_15, .int tnv16, .ref tn_17, .ref tn_18, .ref tnt])), (tn_3, .inl (k 0, 10, .inl tng3)), (tn_4, .inl (k 0, 10, .inl tng4)), (tn_5, .inl (k 0, 10, .inl tng5)), (tn_9, .inl (k 0, 4, .inl tng9)), (tn_10, .inl (k 0, 4, .inl tng10))] H := hP
      have hD : va_D A [(ob, .inr (3, [.ref oba, .ref ob_1])), (ob_1, .inl (k 2, 1000, .inr (.inl (vp_updL obg1 x_10.toNatClampNeg x_25)))), (tn_6, .inl (k 0, 10, .inl tng6)), (oba, .inr (1, [.ref oba_0, .int o_5, .int o_6])), (oba_0, .inl (k 0, 8, .inl o_7)), (tn, .inr (10, [.int tnv0, .int tnv1, .int tnv2, .ref tn_3, .ref tn_4, .ref tn_5, .ref tn_6, .int tnv7, .int tnv8, .ref tn_9, .ref tn_10, .int tnv11, .ref tn_12, .ref tn_13, .ref tn_14, .ref tn_15, .int tnv16, .ref tn_17, .ref tn_18, .ref tnt])), (tn_3, .inl (k 0, 10, .inl tng3)), (tn_4, .inl (k 0, 10, .inl tng4)), (tn_5, .inl (k 0, 10, .inl tng5)), (tn_9, .inl (k 0, 4, .inl tng9)), (tn_10, .inl (k 0, 4, .inl tng10))] := hD
      rw [eg_26] at hP hD
      obtain ⟨hP9, hD9⟩ := sub2 hP hD (ws' := [(ob, .inr (3, [.ref oba, .ref ob_1])), (oba, .inr (1, [.ref oba_0, .int o_5, .int o_6])), (oba_0, .inl (k 0, 8, .inl o_7)), (ob_1, .inl (k 2, 1000, .inr (.inl g_26))), (tn, .inr (10, [.int tnv0, .int tnv1, .int tnv2, .ref tn_3, .ref tn_4, .ref tn_5, .ref tn_6, .int tnv7, .int tnv8, .ref tn_9, .ref tn_10, .int tnv11, .ref tn_12, .ref tn_13, .ref tn_14, .ref tn_15, .int tnv16, .ref tn_17, .ref tn_18, .ref tnt])), (tn_3, .inl (k 0, 10, .inl tng3)), (tn_4, .inl (k 0, 10, .inl tng4)), (tn_5, .inl (k 0, 10, .inl tng5)), (tn_6, .inl (k 0, 10, .inl tng6)), (tn_9, .inl (k 0, 4, .inl tng9)), (tn_10, .inl (k 0, 4, .inl tng10))]) [0, 3, 4, 1, 5, 6, 7, 8, 2, 9, 10] (by decide +kernel) rfl
      exact W.vret hx hb hr (fun tZ ht hW => ⟨⟨(o_5, o_6, o_7, g_26), rfl, hw_9, by rw [ht]; exact hP9, va_K.moved hW.alike hK, hD9⟩, hS.F ht⟩) hS.2.2 dX3_weighLanes_93
    · skip
      have zh_23 : ¬ x_16.toInt = 0 := z_ne h_23
      refine lv_iload hx hb dX3_weighLanes_67 (lv_at hl 0 rfl) ?_
      refine lv_bipush (v := 10) hx hb dX3_weighLanes_69 (by decide) ?_
      refine lv_icmp_ge (tgt := 81) hx hb dX3_weighLanes_71 (by decide) (fun h_27 => ?_) (fun h_27 => ?_)
      · skip
        have zh_27 : 10 ≤ r_20.toInt := z_le h_27
        refine lv_aload_n hx hb dX3_weighLanes_81 rfl (lv_at hl 3 rfl) ?_
        refine va_get (D := D) (ci := 3) (v := .ref ob_1) (C := RX3) (T := TX3) (N := 2) hx hb hts iT_X3 hown hK hP 0 rfl rfl 1 (by decide) (hts _ tw_2_164) (fun _ h9 => h9) rfl dX3_weighLanes_82 ?_
        refine lv_iload hx hb dX3_weighLanes_85 (lv_at hl 2 rfl) ?_
        refine lv_dup2_11 hx hb dX3_weighLanes_87 rfl rfl ?_
        refine va_lald hx hb hK hP 1 2 rfl rfl (z_in (by omega) (by omega)) dX3_weighLanes_88 ?_
        refine lv_topl (fun x_28 ex_28 => ?_)
        refine lv_lload hx hb dX3_weighLanes_89 (lv_at hl 8 rfl) ?_
        refine lv_ladd hx hb dX3_weighLanes_91 ?_
        refine lv_topl (fun x_29 ex_29 => ?_)
        refine va_last hx hb hK hP hD hS 1 2 rfl rfl (z_in (by omega) (by omega)) dX3_weighLanes_92 (fun H locs hP hD hS => ?_)
        obtain ⟨g_30, eg_30⟩ : ∃ z : Nat → Int64, vp_updL obg1 x_10.toNatClampNeg x_29 = z := ⟨_, rfl⟩
        have hP : va_P D vwCl [(ob, .inr (3, [.ref oba, .ref ob_1])), (ob_1, .inl (k 2, 1000, .inr (.inl (vp_updL obg1 x_10.toNatClampNeg x_29)))), (tn_6, .inl (k 0, 10, .inl tng6)), (oba, .inr (1, [.ref oba_0, .int o_5, .int o_6])), (oba_0, .inl (k 0, 8, .inl o_7)), (tn, .inr (10, [.int tnv0, .int tnv1, .int tnv2, .ref tn_3, .ref tn_4, .ref tn_5, .ref tn_6, .int tnv7, .int tnv8, .ref tn_9, .ref tn_10, .int tnv11, .ref tn_12, .ref tn_13, .ref tn_14, .ref tn_15, .int tnv16, .ref tn_17, .ref tn_18, .ref tnt])), (tn_3, .inl (k 0, 10, .inl tng3)), (tn_4, .inl (k 0, 10, .inl tng4)), (tn_5, .inl (k 0, 10, .inl tng5)), (tn_9, .inl (k 0, 4, .inl tng9)), (tn_10, .inl (k 0, 4, .inl tng10))] H := hP
        have hD : va_D A [(ob, .inr (3, [.ref oba, .ref ob_1])), (ob_1, .inl (k 2, 1000, .inr (.inl (vp_updL obg1 x_10.toNatClampNeg x_29)))), (tn_6, .inl (k 0, 10, .inl tng6)), (oba, .inr (1, [.ref oba_0, .int o_5, .int o_6])), (oba_0, .inl (k 0, 8, .inl o_7)), (tn, .inr (10, [.int tnv0, .int tnv1, .int tnv2, .ref tn_3, .ref tn_4, .ref tn_5, .ref tn_6, .int tnv7, .int tnv8, .ref tn_9, .ref tn_10, .int tnv11, .ref tn_12, .ref tn_13, .ref tn_14, .ref tn_15, .int tnv16, .ref tn_17, .ref tn_18, .ref tnt])), (tn_3, .inl (k 0, 10, .inl tng3)), (tn_4, .inl (k 0, 10, .inl tng4)), (tn_5, .inl (k 0, 10, .inl tng5)), (tn_9, .inl (k 0, 4, .inl tng9)), (tn_10, .inl (k 0, 4, .inl tng10))] := hD
        rw [eg_30] at hP hD
        obtain ⟨hP9, hD9⟩ := sub2 hP hD (ws' := [(ob, .inr (3, [.ref oba, .ref ob_1])), (oba, .inr (1, [.ref oba_0, .int o_5, .int o_6])), (oba_0, .inl (k 0, 8, .inl o_7)), (ob_1, .inl (k 2, 1000, .inr (.inl g_30))), (tn, .inr (10, [.int tnv0, .int tnv1, .int tnv2, .ref tn_3, .ref tn_4, .ref tn_5, .ref tn_6, .int tnv7, .int tnv8, .ref tn_9, .ref tn_10, .int tnv11, .ref tn_12, .ref tn_13, .ref tn_14, .ref tn_15, .int tnv16, .ref tn_17, .ref tn_18, .ref tnt])), (tn_3, .inl (k 0, 10, .inl tng3)), (tn_4, .inl (k 0, 10, .inl tng4)), (tn_5, .inl (k 0, 10, .inl tng5)), (tn_6, .inl (k 0, 10, .inl tng6)), (tn_9, .inl (k 0, 4, .inl tng9)), (tn_10, .inl (k 0, 4, .inl tng10))]) [0, 3, 4, 1, 5, 6, 7, 8, 2, 9, 10] (by decide +kernel) rfl
        exact W.vret hx hb hr (fun tZ ht hW => ⟨⟨(o_5, o_6, o_7, g_30), rfl, hw_9, by rw [ht]; exact hP9, va_K.moved hW.alike hK, hD9⟩, hS.F ht⟩) hS.2.2 dX3_weighLanes_93
      · skip
        have zh_27 : r_20.toInt < 10 := z_nle h_27
        refine lv_iload hx hb dX3_weighLanes_74 (lv_at hl 9 rfl) ?_
        refine lv_bipush (v := 10) hx hb dX3_weighLanes_76 (by decide) ?_
        refine lv_icmp_lt (tgt := 94) hx hb dX3_weighLanes_78 (by decide) (fun _ => ?_) (fun c9 => absurd c9 (by decide))
        refine lv_iconst (v := 1) hx hb dX3_weighLanes_94 (by decide) ?_
        refine lv_iload hx hb dX3_weighLanes_95 (lv_at hl 0 rfl) ?_
        refine lv_ishl hx hb dX3_weighLanes_97 ?_
        refine lv_topi (fun x_31 ex_31 => ?_)
        have zx_31 : 1 ≤ x_31.toInt ∧ x_31.toInt ≤ 512 := by rw [ex_31]; exact z_shl1 9 512 rfl (by decide) (by omega) (by omega)
        refine lv_istore (lv' := [(11, .int x_31), (10, .int r_20), (9, .int x_16), (8, .int x_10), (0, .ref ob), (1, .ref tn), (2, .int p1), (3, .int p2), (4, .int p3), (5, .long p4), (7, .int 4)]) hx hb dX3_weighLanes_98 hl (by decide) rfl (fun ls hl => ?_)
        refine lv_lload hx hb dX3_weighLanes_100 (lv_at hl 9 rfl) ?_
        refine lv_ldc2 (v := 10) hx hb hown (hts _ tw_5_159) dX3_weighLanes_102 ?_
        refine lv_ldiv hx hb dX3_weighLanes_105 (by decide) ?_
        refine lv_topl (fun x_32 ex_32 => ?_)
        refine lv_lstore (lv' := [(12, .long x_32), (11, .int x_31), (10, .int r_20), (9, .int x_16), (8, .int x_10), (0, .ref ob), (1, .ref tn), (2, .int p1), (3, .int p2), (4, .int p3), (5, .long p4), (7, .int 4)]) hx hb dX3_weighLanes_106 hl (by decide) rfl (fun ls hl => ?_)
        refine lv_aload_n hx hb dX3_weighLanes_108 rfl (lv_at hl 5 rfl) ?_
        refine lv_aload_n hx hb dX3_weighLanes_109 rfl (lv_at hl 6 rfl) ?_
        refine lv_iload_n hx hb dX3_weighLanes_110 rfl (lv_at hl 7 rfl) ?_
        refine lv_iload_n hx hb dX3_weighLanes_111 rfl (lv_at hl 8 rfl) ?_
        refine lv_iload hx hb dX3_weighLanes_112 (lv_at hl 1 rfl) ?_
        refine lv_ior hx hb dX3_weighLanes_114 ?_
        refine lv_topi (fun x_33 ex_33 => ?_)
        refine lv_iload hx hb dX3_weighLanes_115 (lv_at hl 9 rfl) ?_
        refine lv_lload hx hb dX3_weighLanes_117 (lv_at hl 0 rfl) ?_
        refine lv_bipush (v := 10) hx hb dX3_weighLanes_119 (by decide) ?_
        refine lv_aload_n hx hb dX3_weighLanes_121 rfl (lv_at hl 6 rfl) ?_
        refine va_get (D := D) (ci := 10) (v := .ref tn_6) (C := RX10) (T := TX10) (N := 20) hx hb hts iT_X10 hown hK hP 5 rfl rfl 6 (by decide) (hts _ tw_1_98) (fun _ h9 => h9) rfl dX3_weighLanes_122 ?_
        refine lv_iload hx hb dX3_weighLanes_125 (lv_at hl 2 rfl) ?_
        refine va_iald hx hb hK hP 2 0 rfl rfl (z_in (by omega) (by omega)) dX3_weighLanes_127 ?_
        refine lv_topi (fun x_34 ex_34 => ?_)
        have zx_34r0 : 0 ≤ x_34.toInt ∧ x_34.toInt ≤ 10 := by rw [ex_34]; exact PR.ld hp_tng6_0 (by omega) (by omega) (by omega)
        refine lv_isub hx hb dX3_weighLanes_128 ?_
        refine lv_topi (fun x_35 ex_35 => ?_)
        have zx_35 : x_35.toInt = 10 - x_34.toInt := by rw [ex_35]; exact z_sub rfl rfl (by omega) (by omega)
        refine lv_i2l (v := x_35.toInt64) hx hb dX3_weighLanes_129 rfl ?_
        refine lv_lmul hx hb dX3_weighLanes_130 ?_
        refine lv_topl (fun x_36 ex_36 => ?_)
        refine lv_iload hx hb dX3_weighLanes_131 (lv_at hl 11 rfl) ?_
        refine lv_iconst (v := 1) hx hb dX3_weighLanes_133 (by decide) ?_
        refine lv_iadd hx hb dX3_weighLanes_134 ?_
        refine lv_topi (fun x_37 ex_37 => ?_)
        obtain rfl : x_37 = 5 := ex_37.trans (by decide)
        obtain ⟨hPc, hDc, hFc⟩ := sub3 hP hD hS hA (ws' := [(ob, .inr (3, [.ref oba, .ref ob_1])), (oba, .inr (1, [.ref oba_0, .int o_5, .int o_6])), (oba_0, .inl (k 0, 8, .inl o_7)), (ob_1, .inl (k 2, 1000, .inr (.inl obg1))), (tn, .inr (10, [.int tnv0, .int tnv1, .int tnv2, .ref tn_3, .ref tn_4, .ref tn_5, .ref tn_6, .int tnv7, .int tnv8, .ref tn_9, .ref tn_10, .int tnv11, .ref tn_12, .ref tn_13, .ref tn_14, .ref tn_15, .int tnv16, .ref tn_17, .ref tn_18, .ref tnt])), (tn_3, .inl (k 0, 10, .inl tng3)), (tn_4, .inl (k 0, 10, .inl tng4)), (tn_5, .inl (k 0, 10, .inl tng5)), (tn_6, .inl (k 0, 10, .inl tng6)), (tn_9, .inl (k 0, 4, .inl tng9)), (tn_10, .inl (k 0, 4, .inl tng10))]) [0, 3, 4, 1, 5, 6, 7, 8, 2, 9, 10] (by decide +kernel) rfl
        refine va_callv (va_runV (C := RX3) (As := [.ref tn, .int p1, .int x_33, .int p3, .long x_36, .int 5]) (rest := []) ⟨hx, hb, hml, hown, hts⟩ (c_X3_weighLanes_5 l D k ob tn p1 x_33 p3 x_36 oba ob_1 oba_0 o_5 o_6 o_7 obg1 tnv0 tnv1 tnv2 tn_3 tn_4 tn_5 tn_6 tnv7 tnv8 tn_9 tn_10 tnv11 tn_12 tn_13 tn_14 tn_15 tnv16 tn_17 tn_18 tnt tng3 tng4 tng5 tng6 tng9 tng10 H.size (show 0 ≤ p1.toInt ∧ p1.toInt ≤ 7 from by omega) hw_9 (show 0 ≤ tnv0.toInt ∧ tnv0.toInt ≤ 8 from by omega) (show 0 ≤ tnv2.toInt ∧ tnv2.toInt ≤ 10 from by omega) (show 0 ≤ tnv8.toInt ∧ tnv8.toInt ≤ 4 from by omega) (show 0 ≤ tnv11.toInt ∧ tnv11.toInt ≤ 6 from by omega) (show 0 ≤ tnv16.toInt ∧ tnv16.toInt ≤ 2 from by omega) hp_tng3_0 hp_tng4_0 hp_tng5_0 hp_tng6_0 hp_tng9_0 hp_tng10_0) (cwV 6 hts (gV tw_5_151 tw_5_153 tw_p_34 tw_1_12 tw_5_154) rfl rfl rfl hdV_X3_weighLanes ⟨Nat.le_of_ble_eq_true rfl, Nat.le_of_ble_eq_true rfl⟩) (cz_V hK hPc hDc hN (ci := 3) (q0 := 0) rfl rfl [.ref tn, .int p1, .int x_33, .int p3, .long x_36, .int 5]) rfl rfl hl.1 rfl (lv_room (Nat.le_of_ble_eq_true rfl)) dX3_weighLanes_135 ⟨Nat.le_of_ble_eq_true rfl, Nat.le_of_ble_eq_true rfl⟩) hS (fun q _ h => hFc q h) hFc (fun uZ tZ H1 locs ht hvm hw hB hz1 hk1 hS => ?_)
        obtain ⟨o_39, o_40, o_41, o_42⟩ := uZ
        obtain ⟨hP1, hK1, hD1⟩ := hB
        rw [ht] at hP1
        obtain ⟨hP, hD⟩ := va_join (wr := []) (w1 := [(ob, .inr (3, [.ref oba, .ref ob_1])), (oba, .inr (1, [.ref oba_0, .int o_39, .int o_40])), (oba_0, .inl (k 0, 8, .inl o_41)), (ob_1, .inl (k 2, 1000, .inr (.inl o_42))), (tn, .inr (10, [.int tnv0, .int tnv1, .int tnv2, .ref tn_3, .ref tn_4, .ref tn_5, .ref tn_6, .int tnv7, .int tnv8, .ref tn_9, .ref tn_10, .int tnv11, .ref tn_12, .ref tn_13, .ref tn_14, .ref tn_15, .int tnv16, .ref tn_17, .ref tn_18, .ref tnt])), (tn_3, .inl (k 0, 10, .inl tng3)), (tn_4, .inl (k 0, 10, .inl tng4)), (tn_5, .inl (k 0, 10, .inl tng5)), (tn_6, .inl (k 0, 10, .inl tng6)), (tn_9, .inl (k 0, 4, .inl tng9)), (tn_10, .inl (k 0, 4, .inl tng10))]) hP hD [0, 3, 4, 1, 5, 6, 7, 8, 2, 9, 10] [] rfl rfl (by decide +kernel) (by decide +kernel) hk1 hFc hP1 hD1
        clear hK1 hP1 hD1 hPc hDc hFc
        clear hk1 hz1 ht hvm
        have hP : va_P D vwCl [(ob, .inr (3, [.ref oba, .ref ob_1])), (oba, .inr (1, [.ref oba_0, .int o_39, .int o_40])), (oba_0, .inl (k 0, 8, .inl o_41)), (ob_1, .inl (k 2, 1000, .inr (.inl o_42))), (tn, .inr (10, [.int tnv0, .int tnv1, .int tnv2, .ref tn_3, .ref tn_4, .ref tn_5, .ref tn_6, .int tnv7, .int tnv8, .ref tn_9, .ref tn_10, .int tnv11, .ref tn_12, .ref tn_13, .ref tn_14, .ref tn_15, .int tnv16, .ref tn_17, .ref tn_18, .ref tnt])), (tn_3, .inl (k 0, 10, .inl tng3)), (tn_4, .inl (k 0, 10, .inl tng4)), (tn_5, .inl (k 0, 10, .inl tng5)), (tn_6, .inl (k 0, 10, .inl tng6)), (tn_9, .inl (k 0, 4, .inl tng9)), (tn_10, .inl (k 0, 4, .inl tng10))] H1 := hP
        have hD : va_D A [(ob, .inr (3, [.ref oba, .ref ob_1])), (oba, .inr (1, [.ref oba_0, .int o_39, .int o_40])), (oba_0, .inl (k 0, 8, .inl o_41)), (ob_1, .inl (k 2, 1000, .inr (.inl o_42))), (tn, .inr (10, [.int tnv0, .int tnv1, .int tnv2, .ref tn_3, .ref tn_4, .ref tn_5, .ref tn_6, .int tnv7, .int tnv8, .ref tn_9, .ref tn_10, .int tnv11, .ref tn_12, .ref tn_13, .ref tn_14, .ref tn_15, .int tnv16, .ref tn_17, .ref tn_18, .ref tnt])), (tn_3, .inl (k 0, 10, .inl tng3)), (tn_4, .inl (k 0, 10, .inl tng4)), (tn_5, .inl (k 0, 10, .inl tng5)), (tn_6, .inl (k 0, 10, .inl tng6)), (tn_9, .inl (k 0, 4, .inl tng9)), (tn_10, .inl (k 0, 4, .inl tng10))] := hD
        generalize H1 = H at hP hS ⊢
        have hw_43 : (PR 8 1 0 0 1000000 o_41) := hw
        have hw_44 := hw_43
        clear hw
        refine lv_aload_n hx hb dX3_weighLanes_138 rfl (lv_at hl 5 rfl) ?_
        refine lv_aload_n hx hb dX3_weighLanes_139 rfl (lv_at hl 6 rfl) ?_
        refine lv_iload_n hx hb dX3_weighLanes_140 rfl (lv_at hl 7 rfl) ?_
        refine lv_iload_n hx hb dX3_weighLanes_141 rfl (lv_at hl 8 rfl) ?_
        refine lv_iload hx hb dX3_weighLanes_142 (lv_at hl 1 rfl) ?_
        refine lv_ior hx hb dX3_weighLanes_144 ?_
        refine lv_topi (fun x_45 ex_45 => ?_)
        obtain rfl : x_33 = x_45 := ex_33.trans ex_45.symm
        refine lv_iload hx hb dX3_weighLanes_145 (lv_at hl 9 rfl) ?_
        refine lv_iload hx hb dX3_weighLanes_147 (lv_at hl 1 rfl) ?_
        refine lv_ior hx hb dX3_weighLanes_149 ?_
        refine lv_topi (fun x_46 ex_46 => ?_)
        have zrp3 := z_rng p3
        refine lv_lload hx hb dX3_weighLanes_150 (lv_at hl 0 rfl) ?_
        refine lv_aload_n hx hb dX3_weighLanes_152 rfl (lv_at hl 6 rfl) ?_
        refine va_get (D := D) (ci := 10) (v := .ref tn_6) (C := RX10) (T := TX10) (N := 20) hx hb hts iT_X10 hown hK hP 4 rfl rfl 6 (by decide) (hts _ tw_1_98) (fun _ h9 => h9) rfl dX3_weighLanes_153 ?_
        refine lv_iload hx hb dX3_weighLanes_156 (lv_at hl 2 rfl) ?_
        refine va_iald hx hb hK hP 8 0 rfl rfl (z_in (by omega) (by omega)) dX3_weighLanes_158 ?_
        refine lv_topi (fun x_47 ex_47 => ?_)
        obtain rfl : x_34 = x_47 := ex_34.trans ex_47.symm
        refine lv_i2l (v := x_34.toInt64) hx hb dX3_weighLanes_159 rfl ?_
        refine lv_lmul hx hb dX3_weighLanes_160 ?_
        refine lv_topl (fun x_48 ex_48 => ?_)
        refine lv_iload hx hb dX3_weighLanes_161 (lv_at hl 11 rfl) ?_
        refine lv_iconst (v := 1) hx hb dX3_weighLanes_163 (by decide) ?_
        refine lv_iadd hx hb dX3_weighLanes_164 ?_
        refine lv_topi (fun x_49 ex_49 => ?_)
        obtain rfl : x_49 = 5 := ex_49.trans (by decide)
        obtain ⟨hPc, hDc, hFc⟩ := sub3 hP hD hS hA (ws' := [(ob, .inr (3, [.ref oba, .ref ob_1])), (oba, .inr (1, [.ref oba_0, .int o_39, .int o_40])), (oba_0, .inl (k 0, 8, .inl o_41)), (ob_1, .inl (k 2, 1000, .inr (.inl o_42))), (tn, .inr (10, [.int tnv0, .int tnv1, .int tnv2, .ref tn_3, .ref tn_4, .ref tn_5, .ref tn_6, .int tnv7, .int tnv8, .ref tn_9, .ref tn_10, .int tnv11, .ref tn_12, .ref tn_13, .ref tn_14, .ref tn_15, .int tnv16, .ref tn_17, .ref tn_18, .ref tnt])), (tn_3, .inl (k 0, 10, .inl tng3)), (tn_4, .inl (k 0, 10, .inl tng4)), (tn_5, .inl (k 0, 10, .inl tng5)), (tn_6, .inl (k 0, 10, .inl tng6)), (tn_9, .inl (k 0, 4, .inl tng9)), (tn_10, .inl (k 0, 4, .inl tng10))]) [0, 1, 2, 3, 4, 5, 6, 7, 8, 9, 10] (by decide +kernel) rfl
        refine va_callv (va_runV (C := RX3) (As := [.ref tn, .int p1, .int x_33, .int x_46, .long x_48, .int 5]) (rest := []) ⟨hx, hb, hml, hown, hts⟩ (c_X3_weighLanes_5 l D k ob tn p1 x_33 x_46 x_48 oba ob_1 oba_0 o_39 o_40 o_41 o_42 tnv0 tnv1 tnv2 tn_3 tn_4 tn_5 tn_6 tnv7 tnv8 tn_9 tn_10 tnv11 tn_12 tn_13 tn_14 tn_15 tnv16 tn_17 tn_18 tnt tng3 tng4 tng5 tng6 tng9 tng10 H.size (show 0 ≤ p1.toInt ∧ p1.toInt ≤ 7 from by omega) hw_44 (show 0 ≤ tnv0.toInt ∧ tnv0.toInt ≤ 8 from by omega) (show 0 ≤ tnv2.toInt ∧ tnv2.toInt ≤ 10 from by omega) (show 0 ≤ tnv8.toInt ∧ tnv8.toInt ≤ 4 from by omega) (show 0 ≤ tnv11.toInt ∧ tnv11.toInt ≤ 6 from by omega) (show 0 ≤ tnv16.toInt ∧ tnv16.toInt ≤ 2 from by omega) hp_tng3_0 hp_tng4_0 hp_tng5_0 hp_tng6_0 hp_tng9_0 hp_tng10_0) (cwV 6 hts (gV tw_5_151 tw_5_153 tw_p_34 tw_1_12 tw_5_154) rfl rfl rfl hdV_X3_weighLanes ⟨Nat.le_of_ble_eq_true rfl, Nat.le_of_ble_eq_true rfl⟩) (cz_V hK hPc hDc hN (ci := 3) (q0 := 0) rfl rfl [.ref tn, .int p1, .int x_33, .int x_46, .long x_48, .int 5]) rfl rfl hl.1 rfl (lv_room (Nat.le_of_ble_eq_true rfl)) dX3_weighLanes_165 ⟨Nat.le_of_ble_eq_true rfl, Nat.le_of_ble_eq_true rfl⟩) hS (fun q _ h => hFc q h) hFc (fun uZ tZ H1 locs ht hvm hw hB hz1 hk1 hS => ?_)
        obtain ⟨o_51, o_52, o_53, o_54⟩ := uZ
        obtain ⟨hP1, hK1, hD1⟩ := hB
        rw [ht] at hP1
        obtain ⟨hP, hD⟩ := va_join (wr := []) (w1 := [(ob, .inr (3, [.ref oba, .ref ob_1])), (oba, .inr (1, [.ref oba_0, .int o_51, .int o_52])), (oba_0, .inl (k 0, 8, .inl o_53)), (ob_1, .inl (k 2, 1000, .inr (.inl o_54))), (tn, .inr (10, [.int tnv0, .int tnv1, .int tnv2, .ref tn_3, .ref tn_4, .ref tn_5, .ref tn_6, .int tnv7, .int tnv8, .ref tn_9, .ref tn_10, .int tnv11, .ref tn_12, .ref tn_13, .ref tn_14, .ref tn_15, .int tnv16, .ref tn_17, .ref tn_18, .ref tnt])), (tn_3, .inl (k 0, 10, .inl tng3)), (tn_4, .inl (k 0, 10, .inl tng4)), (tn_5, .inl (k 0, 10, .inl tng5)), (tn_6, .inl (k 0, 10, .inl tng6)), (tn_9, .inl (k 0, 4, .inl tng9)), (tn_10, .inl (k 0, 4, .inl tng10))]) hP hD [0, 1, 2, 3, 4, 5, 6, 7, 8, 9, 10] [] rfl rfl (by decide +kernel) (by decide +kernel) hk1 hFc hP1 hD1
        clear hK1 hP1 hD1 hPc hDc hFc
        clear hk1 hz1 ht hvm
        have hP : va_P D vwCl [(ob, .inr (3, [.ref oba, .ref ob_1])), (oba, .inr (1, [.ref oba_0, .int o_51, .int o_52])), (oba_0, .inl (k 0, 8, .inl o_53)), (ob_1, .inl (k 2, 1000, .inr (.inl o_54))), (tn, .inr (10, [.int tnv0, .int tnv1, .int tnv2, .ref tn_3, .ref tn_4, .ref tn_5, .ref tn_6, .int tnv7, .int tnv8, .ref tn_9, .ref tn_10, .int tnv11, .ref tn_12, .ref tn_13, .ref tn_14, .ref tn_15, .int tnv16, .ref tn_17, .ref tn_18, .ref tnt])), (tn_3, .inl (k 0, 10, .inl tng3)), (tn_4, .inl (k 0, 10, .inl tng4)), (tn_5, .inl (k 0, 10, .inl tng5)), (tn_6, .inl (k 0, 10, .inl tng6)), (tn_9, .inl (k 0, 4, .inl tng9)), (tn_10, .inl (k 0, 4, .inl tng10))] H1 := hP
        have hD : va_D A [(ob, .inr (3, [.ref oba, .ref ob_1])), (oba, .inr (1, [.ref oba_0, .int o_51, .int o_52])), (oba_0, .inl (k 0, 8, .inl o_53)), (ob_1, .inl (k 2, 1000, .inr (.inl o_54))), (tn, .inr (10, [.int tnv0, .int tnv1, .int tnv2, .ref tn_3, .ref tn_4, .ref tn_5, .ref tn_6, .int tnv7, .int tnv8, .ref tn_9, .ref tn_10, .int tnv11, .ref tn_12, .ref tn_13, .ref tn_14, .ref tn_15, .int tnv16, .ref tn_17, .ref tn_18, .ref tnt])), (tn_3, .inl (k 0, 10, .inl tng3)), (tn_4, .inl (k 0, 10, .inl tng4)), (tn_5, .inl (k 0, 10, .inl tng5)), (tn_6, .inl (k 0, 10, .inl tng6)), (tn_9, .inl (k 0, 4, .inl tng9)), (tn_10, .inl (k 0, 4, .inl tng10))] := hD
        generalize H1 = H at hP hS ⊢
        have hw_55 : (PR 8 1 0 0 1000000 o_53) := hw
        have hw_56 := hw_55
        clear hw
        obtain ⟨hP9, hD9⟩ := sub2 hP hD (ws' := [(ob, .inr (3, [.ref oba, .ref ob_1])), (oba, .inr (1, [.ref oba_0, .int o_51, .int o_52])), (oba_0, .inl (k 0, 8, .inl o_53)), (ob_1, .inl (k 2, 1000, .inr (.inl o_54))), (tn, .inr (10, [.int tnv0, .int tnv1, .int tnv2, .ref tn_3, .ref tn_4, .ref tn_5, .ref tn_6, .int tnv7, .int tnv8, .ref tn_9, .ref tn_10, .int tnv11, .ref tn_12, .ref tn_13, .ref tn_14, .ref tn_15, .int tnv16, .ref tn_17, .ref tn_18, .ref tnt])), (tn_3, .inl (k 0, 10, .inl tng3)), (tn_4, .inl (k 0, 10, .inl tng4)), (tn_5, .inl (k 0, 10, .inl tng5)), (tn_6, .inl (k 0, 10, .inl tng6)), (tn_9, .inl (k 0, 4, .inl tng9)), (tn_10, .inl (k 0, 4, .inl tng10))]) [0, 1, 2, 3, 4, 5, 6, 7, 8, 9, 10] (by decide +kernel) rfl
        exact W.vret hx hb hr (fun tZ ht hW => ⟨⟨(o_51, o_52, o_53, o_54), rfl, hw_56, by rw [ht]; exact hP9, va_K.moved hW.alike hK, hD9⟩, hS.F ht⟩) hS.2.2 dX3_weighLanes_168
  · skip
    have zh_11 : 1000 ≤ x_10.toInt := z_nlt h_11
    obtain ⟨hP9, hD9⟩ := sub2 hP hD (ws' := [(ob, .inr (3, [.ref oba, .ref ob_1])), (oba, .inr (1, [.ref oba_0, .int o_5, .int o_6])), (oba_0, .inl (k 0, 8, .inl o_7)), (ob_1, .inl (k 2, 1000, .inr (.inl obg1))), (tn, .inr (10, [.int tnv0, .int tnv1, .int tnv2, .ref tn_3, .ref tn_4, .ref tn_5, .ref tn_6, .int tnv7, .int tnv8, .ref tn_9, .ref tn_10, .int tnv11, .ref tn_12, .ref tn_13, .ref tn_14, .ref tn_15, .int tnv16, .ref tn_17, .ref tn_18, .ref tnt])), (tn_3, .inl (k 0, 10, .inl tng3)), (tn_4, .inl (k 0, 10, .inl tng4)), (tn_5, .inl (k 0, 10, .inl tng5)), (tn_6, .inl (k 0, 10, .inl tng6)), (tn_9, .inl (k 0, 4, .inl tng9)), (tn_10, .inl (k 0, 4, .inl tng10))]) [0, 3, 4, 1, 5, 6, 7, 8, 2, 9, 10] (by decide +kernel) rfl
    exact W.vret hx hb hr (fun tZ ht hW => ⟨⟨(o_5, o_6, o_7, obg1), rfl, hw_9, by rw [ht]; exact hP9, va_K.moved hW.alike hK, hD9⟩, hS.F ht⟩) hS.2.2 dX3_weighLanes_33
set_option maxHeartbeats 4000000 in
set_option maxRecDepth 100000 in
theorem c_X3_weighLanes_7 (l : Launch) (D : va_G) (k : Nat → ClassId) (ob : Nat) (tn : Nat) (p1 : Int32) (p2 : Int32) (p3 : Int32) (p4 : Int64) (oba : Nat) (ob_1 : Nat) (oba_0 : Nat) (obav1 : Int32) (obav2 : Int32) (obag0 : Nat → Int32) (obg1 : Nat → Int64) (tnv0 : Int32) (tnv1 : Int32) (tnv2 : Int32) (tn_3 : Nat) (tn_4 : Nat) (tn_5 : Nat) (tn_6 : Nat) (tnv7 : Int32) (tnv8 : Int32) (tn_9 : Nat) (tn_10 : Nat) (tnv11 : Int32) (tn_12 : Nat) (tn_13 : Nat) (tn_14 : Nat) (tn_15 : Nat) (tnv16 : Int32) (tn_17 : Nat) (tn_18 : Nat) (tnt : Nat) (tng3 : Nat → Int32) (tng4 : Nat → Int32) (tng5 : Nat → Int32) (tng6 : Nat → Int32) (tng9 : Nat → Int32) (tng10 : Nat → Int32) (sz : Nat) (h_p1 : 0 ≤ p1.toInt ∧ p1.toInt ≤ 7) (hp_obag0_0 : PR 8 1 0 0 1000000 obag0) (h_tnv0 : 0 ≤ tnv0.toInt ∧ tnv0.toInt ≤ 8) (h_tnv2 : 0 ≤ tnv2.toInt ∧ tnv2.toInt ≤ 10) (h_tnv8 : 0 ≤ tnv8.toInt ∧ tnv8.toInt ≤ 4) (h_tnv11 : 0 ≤ tnv11.toInt ∧ tnv11.toInt ≤ 6) (h_tnv16 : 0 ≤ tnv16.toInt ∧ tnv16.toInt ≤ 2) (hp_tng3_0 : PR 10 1 0 0 7 tng3) (hp_tng4_0 : PR 10 1 0 0 7 tng4) (hp_tng5_0 : PR 10 1 0 0 60 tng5) (hp_tng6_0 : PR 10 1 0 0 10 tng6) (hp_tng9_0 : PR 4 1 0 0 7 tng9) (hp_tng10_0 : PR 4 1 0 0 99 tng10) : Met l yX3_weighLanes (ww yX3_weighLanes cX3_weighLanes 14 none) ({ frames := 11, cells := 0, slots := 0, locals := 331 }) (Pre0 D k [(ob, .inr (3, [.ref oba, .ref ob_1])), (oba, .inr (1, [.ref oba_0, .int obav1, .int obav2])), (oba_0, .inl (k 0, 8, .inl obag0)), (ob_1, .inl (k 2, 1000, .inr (.inl obg1))), (tn, .inr (10, [.int tnv0, .int tnv1, .int tnv2, .ref tn_3, .ref tn_4, .ref tn_5, .ref tn_6, .int tnv7, .int tnv8, .ref tn_9, .ref tn_10, .int tnv11, .ref tn_12, .ref tn_13, .ref tn_14, .ref tn_15, .int tnv16, .ref tn_17, .ref tn_18, .ref tnt])), (tn_3, .inl (k 0, 10, .inl tng3)), (tn_4, .inl (k 0, 10, .inl tng4)), (tn_5, .inl (k 0, 10, .inl tng5)), (tn_6, .inl (k 0, 10, .inl tng6)), (tn_9, .inl (k 0, 4, .inl tng9)), (tn_10, .inl (k 0, 4, .inl tng10))] sz [.ref ob, .ref tn, .int p1, .int p2, .int p3, .long p4, .int 3]) (va_Qv (fun (u : Int32 × Int32 × (Nat → Int32) × (Nat → Int64)) => match u with | (obav1z, obav2z, obag0z, obg1z) => (PR 8 1 0 0 1000000 obag0z)) (fun (u : Int32 × Int32 × (Nat → Int32) × (Nat → Int64)) tZ => match u with | (obav1z, obav2z, obag0z, obg1z) => Bw D k (va_A [(ob, .inr (3, [.ref oba, .ref ob_1])), (oba, .inr (1, [.ref oba_0, .int obav1, .int obav2])), (oba_0, .inl (k 0, 8, .inl obag0)), (ob_1, .inl (k 2, 1000, .inr (.inl obg1))), (tn, .inr (10, [.int tnv0, .int tnv1, .int tnv2, .ref tn_3, .ref tn_4, .ref tn_5, .ref tn_6, .int tnv7, .int tnv8, .ref tn_9, .ref tn_10, .int tnv11, .ref tn_12, .ref tn_13, .ref tn_14, .ref tn_15, .int tnv16, .ref tn_17, .ref tn_18, .ref tnt])), (tn_3, .inl (k 0, 10, .inl tng3)), (tn_4, .inl (k 0, 10, .inl tng4)), (tn_5, .inl (k 0, 10, .inl tng5)), (tn_6, .inl (k 0, 10, .inl tng6)), (tn_9, .inl (k 0, 4, .inl tng9)), (tn_10, .inl (k 0, 4, .inl tng10))] sz) [(ob, .inr (3, [.ref oba, .ref ob_1])), (oba, .inr (1, [.ref oba_0, .int obav1z, .int obav2z])), (oba_0, .inl (k 0, 8, .inl obag0z)), (ob_1, .inl (k 2, 1000, .inr (.inl obg1z))), (tn, .inr (10, [.int tnv0, .int tnv1, .int tnv2, .ref tn_3, .ref tn_4, .ref tn_5, .ref tn_6, .int tnv7, .int tnv8, .ref tn_9, .ref tn_10, .int tnv11, .ref tn_12, .ref tn_13, .ref tn_14, .ref tn_15, .int tnv16, .ref tn_17, .ref tn_18, .ref tnt])), (tn_3, .inl (k 0, 10, .inl tng3)), (tn_4, .inl (k 0, 10, .inl tng4)), (tn_5, .inl (k 0, 10, .inl tng5)), (tn_6, .inl (k 0, 10, .inl tng6)), (tn_9, .inl (k 0, 4, .inl tng9)), (tn_10, .inl (k 0, 4, .inl tng10))] tZ) (va_A [(ob, .inr (3, [.ref oba, .ref ob_1])), (oba, .inr (1, [.ref oba_0, .int obav1, .int obav2])), (oba_0, .inl (k 0, 8, .inl obag0)), (ob_1, .inl (k 2, 1000, .inr (.inl obg1))), (tn, .inr (10, [.int tnv0, .int tnv1, .int tnv2, .ref tn_3, .ref tn_4, .ref tn_5, .ref tn_6, .int tnv7, .int tnv8, .ref tn_9, .ref tn_10, .int tnv11, .ref tn_12, .ref tn_13, .ref tn_14, .ref tn_15, .int tnv16, .ref tn_17, .ref tn_18, .ref tnt])), (tn_3, .inl (k 0, 10, .inl tng3)), (tn_4, .inl (k 0, 10, .inl tng4)), (tn_5, .inl (k 0, 10, .inl tng5)), (tn_6, .inl (k 0, 10, .inl tng6)), (tn_9, .inl (k 0, 4, .inl tng9)), (tn_10, .inl (k 0, 4, .inl tng10))] sz)) 0 0 (va_A [(ob, .inr (3, [.ref oba, .ref ob_1])), (oba, .inr (1, [.ref oba_0, .int obav1, .int obav2])), (oba_0, .inl (k 0, 8, .inl obag0)), (ob_1, .inl (k 2, 1000, .inr (.inl obg1))), (tn, .inr (10, [.int tnv0, .int tnv1, .int tnv2, .ref tn_3, .ref tn_4, .ref tn_5, .ref tn_6, .int tnv7, .int tnv8, .ref tn_9, .ref tn_10, .int tnv11, .ref tn_12, .ref tn_13, .ref tn_14, .ref tn_15, .int tnv16, .ref tn_17, .ref tn_18, .ref tnt])), (tn_3, .inl (k 0, 10, .inl tng3)), (tn_4, .inl (k 0, 10, .inl tng4)), (tn_5, .inl (k 0, 10, .inl tng5)), (tn_6, .inl (k 0, 10, .inl tng6)), (tn_9, .inl (k 0, 4, .inl tng9)), (tn_10, .inl (k 0, 4, .inl tng10))] sz) := by
  refine Met.ofW (cc := cX3_weighLanes) (maxL := 14) (ret := none) (by decide +kernel) rfl ?_
  intro p e s m args below meth c s₁ B hml hv
  obtain ⟨rfl, hsz, hP, hK, hD0, hN⟩ := hv
  have hx := B.exec
  have hb := B.bytes
  have hr := B.returns
  have hts : ∀ w ∈ TT, w.before _ s = true := fun w h => atoms_spec (ws := ww yX3_weighLanes cX3_weighLanes 14 none) B.pre w (List.mem_cons_of_mem _ h)
  have hown : s.vm.findClass RX3 = some m.cls := findClass_of_methodNamed B.named
  have hlocks := B.notSynchronized
  subst hsz
  have hD := hD0.self (sz := s.heap.size)
  generalize hAe : va_A [(ob, .inr (3, [.ref oba, .ref ob_1])), (oba, .inr (1, [.ref oba_0, .int obav1, .int obav2])), (oba_0, .inl (k 0, 8, .inl obag0)), (ob_1, .inl (k 2, 1000, .inr (.inl obg1))), (tn, .inr (10, [.int tnv0, .int tnv1, .int tnv2, .ref tn_3, .ref tn_4, .ref tn_5, .ref tn_6, .int tnv7, .int tnv8, .ref tn_9, .ref tn_10, .int tnv11, .ref tn_12, .ref tn_13, .ref tn_14, .ref tn_15, .int tnv16, .ref tn_17, .ref tn_18, .ref tnt])), (tn_3, .inl (k 0, 10, .inl tng3)), (tn_4, .inl (k 0, 10, .inl tng4)), (tn_5, .inl (k 0, 10, .inl tng5)), (tn_6, .inl (k 0, 10, .inl tng6)), (tn_9, .inl (k 0, 4, .inl tng9)), (tn_10, .inl (k 0, 4, .inl tng10))] s.heap.size = A at hD ⊢
  have hA : ∀ q : Nat, s.heap.size ≤ q → A q := fun q h => by rw [← hAe]; exact Or.inr h
  have hS : va_S A s.heap s.heap [] := va_S.rf
  have hl := lv_entry ([.ref ob, .ref tn, .int p1, .int p2, .int p3, .long p4, .int 3]) (n := 14) (Nat.le_of_ble_eq_true rfl)
  rw [lg_entry_eq]
  generalize (lg_sl ([.ref ob, .ref tn, .int p1, .int p2, .int p3, .long p4, .int 3]) ++ List.replicate (14 - (lg_sl ([.ref ob, .ref tn, .int p1, .int p2, .int p3, .long p4, .int 3])).length) Slot.unset).toArray = ls at hl ⊢
  have hl : lv_has ls 14 [(0, .ref ob), (1, .ref tn), (2, .int p1), (3, .int p2), (4, .int p3), (5, .long p4), (7, .int 3)] := hl
  refine lv_aload_n hx hb dX3_weighLanes_0 rfl (lv_at hl 0 rfl) ?_
  refine va_get (D := D) (ci := 3) (v := .ref oba) (C := RX3) (T := TX3) (N := 2) hx hb hts iT_X3 hown hK hP 0 rfl rfl 0 (by decide) (hts _ tw_2_163) (fun _ h9 => h9) rfl dX3_weighLanes_1 ?_
  refine lv_aload_n hx hb dX3_weighLanes_4 rfl (lv_at hl 1 rfl) ?_
  refine lv_aload_n hx hb dX3_weighLanes_5 rfl (lv_at hl 1 rfl) ?_
  obtain ⟨hPc, hDc, hFc⟩ := sub3 hP hD hS hA (ws' := [(tn, .inr (10, [.int tnv0, .int tnv1, .int tnv2, .ref tn_3, .ref tn_4, .ref tn_5, .ref tn_6, .int tnv7, .int tnv8, .ref tn_9, .ref tn_10, .int tnv11, .ref tn_12, .ref tn_13, .ref tn_14, .ref tn_15, .int tnv16, .ref tn_17, .ref tn_18, .ref tnt]))]) [4] (by decide +kernel) rfl
  refine va_calli (va_runV (C := RX10) (As := []) (rest := [.ref tn, .ref oba]) ⟨hx, hb, hml, hown, hts⟩ (c_X10_openLanes l D k tn tnv0 tnv1 tnv2 tn_3 tn_4 tn_5 tn_6 tnv7 tnv8 tn_9 tn_10 tnv11 tn_12 tn_13 tn_14 tn_15 tnv16 tn_17 tn_18 tnt s.heap.size (show 0 ≤ tnv0.toInt ∧ tnv0.toInt ≤ 8 from by omega) (show 0 ≤ tnv2.toInt ∧ tnv2.toInt ≤ 10 from by omega) (show 0 ≤ tnv8.toInt ∧ tnv8.toInt ≤ 4 from by omega) (show 0 ≤ tnv11.toInt ∧ tnv11.toInt ≤ 6 from by omega) (show 0 ≤ tnv16.toInt ∧ tnv16.toInt ≤ 2 from by omega)) (cwV 0 hts (gV tw_5_155 tw_3_180 tw_3_181 tw_1_3 tw_3_182) rfl rfl rfl hdV_X10_openLanes ⟨Nat.le_of_ble_eq_true rfl, Nat.le_of_ble_eq_true rfl⟩) (cz_V hK hPc hDc hN (ci := 10) (q0 := 0) rfl rfl []) rfl rfl hl.1 rfl (lv_room (Nat.le_of_ble_eq_true rfl)) dX3_weighLanes_6 ⟨Nat.le_of_ble_eq_true rfl, Nat.le_of_ble_eq_true rfl⟩) hS (fun q _ h => hFc q h) hFc (fun r_1 uZ tZ H1 locs ht hvm hw hB hz1 hk1 hS => ?_)
  obtain ⟨hP1, hK1, hD1⟩ := hB
  rw [ht] at hP1
  obtain ⟨hP, hD⟩ := va_join (wr := [(ob, .inr (3, [.ref oba, .ref ob_1])), (oba, .inr (1, [.ref oba_0, .int obav1, .int obav2])), (oba_0, .inl (k 0, 8, .inl obag0)), (ob_1, .inl (k 2, 1000, .inr (.inl obg1))), (tn_3, .inl (k 0, 10, .inl tng3)), (tn_4, .inl (k 0, 10, .inl tng4)), (tn_5, .inl (k 0, 10, .inl tng5)), (tn_6, .inl (k 0, 10, .inl tng6)), (tn_9, .inl (k 0, 4, .inl tng9)), (tn_10, .inl (k 0, 4, .inl tng10))]) (w1 := [(tn, .inr (10, [.int tnv0, .int tnv1, .int tnv2, .ref tn_3, .ref tn_4, .ref tn_5, .ref tn_6, .int tnv7, .int tnv8, .ref tn_9, .ref tn_10, .int tnv11, .ref tn_12, .ref tn_13, .ref tn_14, .ref tn_15, .int tnv16, .ref tn_17, .ref tn_18, .ref tnt]))]) hP hD [4] [0, 1, 2, 3, 5, 6, 7, 8, 9, 10] rfl rfl (by decide +kernel) (by decide +kernel) hk1 hFc hP1 hD1
  clear hK1 hP1 hD1 hPc hDc hFc
  clear hk1 hz1 ht hvm
  have hP : va_P D vwCl [(ob, .inr (3, [.ref oba, .ref ob_1])), (oba, .inr (1, [.ref oba_0, .int obav1, .int obav2])), (oba_0, .inl (k 0, 8, .inl obag0)), (ob_1, .inl (k 2, 1000, .inr (.inl obg1))), (tn_3, .inl (k 0, 10, .inl tng3)), (tn_4, .inl (k 0, 10, .inl tng4)), (tn_5, .inl (k 0, 10, .inl tng5)), (tn_6, .inl (k 0, 10, .inl tng6)), (tn_9, .inl (k 0, 4, .inl tng9)), (tn_10, .inl (k 0, 4, .inl tng10)), (tn, .inr (10, [.int tnv0, .int tnv1, .int tnv2, .ref tn_3, .ref tn_4, .ref tn_5, .ref tn_6, .int tnv7, .int tnv8, .ref tn_9, .ref tn_10, .int tnv11, .ref tn_12, .ref tn_13, .ref tn_14, .ref tn_15, .int tnv16, .ref tn_17, .ref tn_18, .ref tnt]))] H1 := hP
  have hD : va_D A [(ob, .inr (3, [.ref oba, .ref ob_1])), (oba, .inr (1, [.ref oba_0, .int obav1, .int obav2])), (oba_0, .inl (k 0, 8, .inl obag0)), (ob_1, .inl (k 2, 1000, .inr (.inl obg1))), (tn_3, .inl (k 0, 10, .inl tng3)), (tn_4, .inl (k 0, 10, .inl tng4)), (tn_5, .inl (k 0, 10, .inl tng5)), (tn_6, .inl (k 0, 10, .inl tng6)), (tn_9, .inl (k 0, 4, .inl tng9)), (tn_10, .inl (k 0, 4, .inl tng10)), (tn, .inr (10, [.int tnv0, .int tnv1, .int tnv2, .ref tn_3, .ref tn_4, .ref tn_5, .ref tn_6, .int tnv7, .int tnv8, .ref tn_9, .ref tn_10, .int tnv11, .ref tn_12, .ref tn_13, .ref tn_14, .ref tn_15, .int tnv16, .ref tn_17, .ref tn_18, .ref tnt]))] := hD
  generalize H1 = H at hP hS ⊢
  have hw_2 : (0 ≤ r_1.toInt ∧ r_1.toInt ≤ 1023) := hw
  have hw_3 := hw_2
  clear hw
  refine lv_iload hx hb dX3_weighLanes_9 (lv_at hl 4 rfl) ?_
  obtain ⟨hPc, hDc, hFc⟩ := sub3 hP hD hS hA (ws' := [(oba, .inr (1, [.ref oba_0, .int obav1, .int obav2])), (oba_0, .inl (k 0, 8, .inl obag0)), (tn, .inr (10, [.int tnv0, .int tnv1, .int tnv2, .ref tn_3, .ref tn_4, .ref tn_5, .ref tn_6, .int tnv7, .int tnv8, .ref tn_9, .ref tn_10, .int tnv11, .ref tn_12, .ref tn_13, .ref tn_14, .ref tn_15, .int tnv16, .ref tn_17, .ref tn_18, .ref tnt])), (tn_3, .inl (k 0, 10, .inl tng3)), (tn_4, .inl (k 0, 10, .inl tng4)), (tn_5, .inl (k 0, 10, .inl tng5)), (tn_9, .inl (k 0, 4, .inl tng9)), (tn_10, .inl (k 0, 4, .inl tng10))]) [1, 2, 10, 4, 5, 6, 8, 9] (by decide +kernel) rfl
  refine va_callv (va_runV (C := RX1) (As := [.ref tn, .int r_1, .int p3]) (rest := []) ⟨hx, hb, hml, hown, hts⟩ (c_X1_fall l D k oba tn r_1 p3 oba_0 obav1 obav2 obag0 tnv0 tnv1 tnv2 tn_3 tn_4 tn_5 tn_6 tnv7 tnv8 tn_9 tn_10 tnv11 tn_12 tn_13 tn_14 tn_15 tnv16 tn_17 tn_18 tnt tng3 tng4 tng5 tng9 tng10 H.size hp_obag0_0 (show 0 ≤ tnv0.toInt ∧ tnv0.toInt ≤ 8 from by omega) (show 0 ≤ tnv2.toInt ∧ tnv2.toInt ≤ 10 from by omega) (show 0 ≤ tnv8.toInt ∧ tnv8.toInt ≤ 4 from by omega) (show 0 ≤ tnv11.toInt ∧ tnv11.toInt ≤ 6 from by omega) (show 0 ≤ tnv16.toInt ∧ tnv16.toInt ≤ 2 from by omega) hp_tng3_0 hp_tng4_0 hp_tng5_0 hp_tng9_0 hp_tng10_0) (cwV 3 hts (gV tw_5_156 tw_3_184 tw_3_185 tw_1_6 tw_3_186) rfl rfl rfl hdV_X1_fall ⟨Nat.le_of_ble_eq_true rfl, Nat.le_of_ble_eq_true rfl⟩) (cz_V hK hPc hDc hN (ci := 1) (q0 := 0) rfl rfl [.ref tn, .int r_1, .int p3]) rfl rfl hl.1 rfl (lv_room (Nat.le_of_ble_eq_true rfl)) dX3_weighLanes_11 ⟨Nat.le_of_ble_eq_true rfl, Nat.le_of_ble_eq_true rfl⟩) hS (fun q _ h => hFc q h) hFc (fun uZ tZ H1 locs ht hvm hw hB hz1 hk1 hS => ?_)
  obtain ⟨o_5, o_6, o_7⟩ := uZ
  obtain ⟨hP1, hK1, hD1⟩ := hB
  rw [ht] at hP1
  obtain ⟨hP, hD⟩ := va_join (wr := [(ob, .inr (3, [.ref oba, .ref ob_1])), (ob_1, .inl (k 2, 1000, .inr (.inl obg1))), (tn_6, .inl (k 0, 10, .inl tng6))]) (w1 := [(oba, .inr (1, [.ref oba_0, .int o_5, .int o_6])), (oba_0, .inl (k 0, 8, .inl o_7)), (tn, .inr (10, [.int tnv0, .int tnv1, .int tnv2, .ref tn_3, .ref tn_4, .ref tn_5, .ref tn_6, .int tnv7, .int tnv8, .ref tn_9, .ref tn_10, .int tnv11, .ref tn_12, .ref tn_13, .ref tn_14, .ref tn_15, .int tnv16, .ref tn_17, .ref tn_18, .ref tnt])), (tn_3, .inl (k 0, 10, .inl tng3)), (tn_4, .inl (k 0, 10, .inl tng4)), (tn_5, .inl (k 0, 10, .inl tng5)), (tn_9, .inl (k 0, 4, .inl tng9)), (tn_10, .inl (k 0, 4, .inl tng10))]) hP hD [1, 2, 10, 4, 5, 6, 8, 9] [0, 3, 7] rfl rfl (by decide +kernel) (by decide +kernel) hk1 hFc hP1 hD1
  clear hK1 hP1 hD1 hPc hDc hFc
  clear hk1 hz1 ht hvm
  have hP : va_P D vwCl [(ob, .inr (3, [.ref oba, .ref ob_1])), (ob_1, .inl (k 2, 1000, .inr (.inl obg1))), (tn_6, .inl (k 0, 10, .inl tng6)), (oba, .inr (1, [.ref oba_0, .int o_5, .int o_6])), (oba_0, .inl (k 0, 8, .inl o_7)), (tn, .inr (10, [.int tnv0, .int tnv1, .int tnv2, .ref tn_3, .ref tn_4, .ref tn_5, .ref tn_6, .int tnv7, .int tnv8, .ref tn_9, .ref tn_10, .int tnv11, .ref tn_12, .ref tn_13, .ref tn_14, .ref tn_15, .int tnv16, .ref tn_17, .ref tn_18, .ref tnt])), (tn_3, .inl (k 0, 10, .inl tng3)), (tn_4, .inl (k 0, 10, .inl tng4)), (tn_5, .inl (k 0, 10, .inl tng5)), (tn_9, .inl (k 0, 4, .inl tng9)), (tn_10, .inl (k 0, 4, .inl tng10))] H1 := hP
  have hD : va_D A [(ob, .inr (3, [.ref oba, .ref ob_1])), (ob_1, .inl (k 2, 1000, .inr (.inl obg1))), (tn_6, .inl (k 0, 10, .inl tng6)), (oba, .inr (1, [.ref oba_0, .int o_5, .int o_6])), (oba_0, .inl (k 0, 8, .inl o_7)), (tn, .inr (10, [.int tnv0, .int tnv1, .int tnv2, .ref tn_3, .ref tn_4, .ref tn_5, .ref tn_6, .int tnv7, .int tnv8, .ref tn_9, .ref tn_10, .int tnv11, .ref tn_12, .ref tn_13, .ref tn_14, .ref tn_15, .int tnv16, .ref tn_17, .ref tn_18, .ref tnt])), (tn_3, .inl (k 0, 10, .inl tng3)), (tn_4, .inl (k 0, 10, .inl tng4)), (tn_5, .inl (k 0, 10, .inl tng5)), (tn_9, .inl (k 0, 4, .inl tng9)), (tn_10, .inl (k 0, 4, .inl tng10))] := hD
  generalize H1 = H at hP hS ⊢
  have hw_8 : (PR 8 1 0 0 1000000 o_7) := hw
  have hw_9 := hw_8
  clear hw
  refine lv_aload_n hx hb dX3_weighLanes_14 rfl (lv_at hl 0 rfl) ?_
  refine va_get (D := D) (ci := 3) (v := .ref oba) (C := RX3) (T := TX3) (N := 2) hx hb hts iT_X3 hown hK hP 0 rfl rfl 0 (by decide) (hts _ tw_2_163) (fun _ h9 => h9) rfl dX3_weighLanes_15 ?_
  refine va_get (D := D) (ci := 1) (v := .ref oba_0) (C := RX1) (T := TX1) (N := 3) hx hb hts iT_X1 hown hK hP 3 rfl rfl 0 (by decide) (hts _ tw_2_21) (fun _ h9 => h9) rfl dX3_weighLanes_18 ?_
  refine lv_iload_n hx hb dX3_weighLanes_21 rfl (lv_at hl 2 rfl) ?_
  refine va_iald hx hb hK hP 4 0 rfl rfl (z_in (by omega) (by omega)) dX3_weighLanes_22 ?_
  refine lv_topi (fun x_10 ex_10 => ?_)
  have zx_10r0 : 0 ≤ x_10.toInt ∧ x_10.toInt ≤ 1000000 := by rw [ex_10]; exact PR.ld hw_9 (by omega) (by omega) (by omega)
  refine lv_istore (lv' := [(8, .int x_10), (0, .ref ob), (1, .ref tn), (2, .int p1), (3, .int p2), (4, .int p3), (5, .long p4), (7, .int 3)]) hx hb dX3_weighLanes_23 hl (by decide) rfl (fun ls hl => ?_)
  refine lv_iload hx hb dX3_weighLanes_25 (lv_at hl 0 rfl) ?_
  refine lv_sipush (v := 1000) hx hb dX3_weighLanes_27 (by decide) ?_
  refine lv_icmp_lt (tgt := 34) hx hb dX3_weighLanes_30 (by decide) (fun h_11 => ?_) (fun h_11 => ?_)
  · skip
    have zh_11 : x_10.toInt < 1000 := z_lt h_11
    refine lv_aload_n hx hb dX3_weighLanes_34 rfl (lv_at hl 1 rfl) ?_
    refine va_get (D := D) (ci := 3) (v := .ref oba) (C := RX3) (T := TX3) (N := 2) hx hb hts iT_X3 hown hK hP 0 rfl rfl 0 (by decide) (hts _ tw_2_163) (fun _ h9 => h9) rfl dX3_weighLanes_35 ?_
    refine lv_aload_n hx hb dX3_weighLanes_38 rfl (lv_at hl 2 rfl) ?_
    refine lv_iload_n hx hb dX3_weighLanes_39 rfl (lv_at hl 3 rfl) ?_
    obtain ⟨hPc, hDc, hFc⟩ := sub3 hP hD hS hA (ws' := [(oba, .inr (1, [.ref oba_0, .int o_5, .int o_6])), (oba_0, .inl (k 0, 8, .inl o_7)), (tn, .inr (10, [.int tnv0, .int tnv1, .int tnv2, .ref tn_3, .ref tn_4, .ref tn_5, .ref tn_6, .int tnv7, .int tnv8, .ref tn_9, .ref tn_10, .int tnv11, .ref tn_12, .ref tn_13, .ref tn_14, .ref tn_15, .int tnv16, .ref tn_17, .ref tn_18, .ref tnt])), (tn_3, .inl (k 0, 10, .inl tng3)), (tn_4, .inl (k 0, 10, .inl tng4)), (tn_5, .inl (k 0, 10, .inl tng5)), (tn_9, .inl (k 0, 4, .inl tng9)), (tn_10, .inl (k 0, 4, .inl tng10))]) [3, 4, 5, 6, 7, 8, 9, 10] (by decide +kernel) rfl
    refine va_calli (va_runV (C := RX1) (As := [.ref tn, .int p1]) (rest := []) ⟨hx, hb, hml, hown, hts⟩ (c_X1_wayTo l D k oba tn p1 oba_0 o_5 o_6 o_7 tnv0 tnv1 tnv2 tn_3 tn_4 tn_5 tn_6 tnv7 tnv8 tn_9 tn_10 tnv11 tn_12 tn_13 tn_14 tn_15 tnv16 tn_17 tn_18 tnt tng3 tng4 tng5 tng9 tng10 H.size (show 0 ≤ p1.toInt ∧ p1.toInt ≤ 7 from by omega) hw_9 (show 0 ≤ tnv0.toInt ∧ tnv0.toInt ≤ 8 from by omega) (show 0 ≤ tnv2.toInt ∧ tnv2.toInt ≤ 10 from by omega) (show 0 ≤ tnv8.toInt ∧ tnv8.toInt ≤ 4 from by omega) (show 0 ≤ tnv11.toInt ∧ tnv11.toInt ≤ 6 from by omega) (show 0 ≤ tnv16.toInt ∧ tnv16.toInt ≤ 2 from by omega) hp_tng3_0 hp_tng4_0 hp_tng5_0 hp_tng9_0 hp_tng10_0) (cwV 2 hts (gV tw_5_157 tw_4_96 tw_4_97 tw_1_6 tw_4_98) rfl rfl rfl hdV_X1_wayTo ⟨Nat.le_of_ble_eq_true rfl, Nat.le_of_ble_eq_true rfl⟩) (cz_V hK hPc hDc hN (ci := 1) (q0 := 0) rfl rfl [.ref tn, .int p1]) rfl rfl hl.1 rfl (lv_room (Nat.le_of_ble_eq_true rfl)) dX3_weighLanes_40 ⟨Nat.le_of_ble_eq_true rfl, Nat.le_of_ble_eq_true rfl⟩) hS (fun q _ h => hFc q h) hFc (fun r_12 uZ tZ H1 locs ht hvm hw hB hz1 hk1 hS => ?_)
    obtain ⟨hP1, hK1, hD1⟩ := hB
    rw [ht] at hP1
    obtain ⟨hP, hD⟩ := va_join (wr := [(ob, .inr (3, [.ref oba, .ref ob_1])), (ob_1, .inl (k 2, 1000, .inr (.inl obg1))), (tn_6, .inl (k 0, 10, .inl tng6))]) (w1 := [(oba, .inr (1, [.ref oba_0, .int o_5, .int o_6])), (oba_0, .inl (k 0, 8, .inl o_7)), (tn, .inr (10, [.int tnv0, .int tnv1, .int tnv2, .ref tn_3, .ref tn_4, .ref tn_5, .ref tn_6, .int tnv7, .int tnv8, .ref tn_9, .ref tn_10, .int tnv11, .ref tn_12, .ref tn_13, .ref tn_14, .ref tn_15, .int tnv16, .ref tn_17, .ref tn_18, .ref tnt])), (tn_3, .inl (k 0, 10, .inl tng3)), (tn_4, .inl (k 0, 10, .inl tng4)), (tn_5, .inl (k 0, 10, .inl tng5)), (tn_9, .inl (k 0, 4, .inl tng9)), (tn_10, .inl (k 0, 4, .inl tng10))]) hP hD [3, 4, 5, 6, 7, 8, 9, 10] [0, 1, 2] rfl rfl (by decide +kernel) (by decide +kernel) hk1 hFc hP1 hD1
    clear hK1 hP1 hD1 hPc hDc hFc
    clear hk1 hz1 ht hvm
    have hP : va_P D vwCl [(ob, .inr (3, [.ref oba, .ref ob_1])), (ob_1, .inl (k 2, 1000, .inr (.inl obg1))), (tn_6, .inl (k 0, 10, .inl tng6)), (oba, .inr (1, [.ref oba_0, .int o_5, .int o_6])), (oba_0, .inl (k 0, 8, .inl o_7)), (tn, .inr (10, [.int tnv0, .int tnv1, .int tnv2, .ref tn_3, .ref tn_4, .ref tn_5, .ref tn_6, .int tnv7, .int tnv8, .ref tn_9, .ref tn_10, .int tnv11, .ref tn_12, .ref tn_13, .ref tn_14, .ref tn_15, .int tnv16, .ref tn_17, .ref tn_18, .ref tnt])), (tn_3, .inl (k 0, 10, .inl tng3)), (tn_4, .inl (k 0, 10, .inl tng4)), (tn_5, .inl (k 0, 10, .inl tng5)), (tn_9, .inl (k 0, 4, .inl tng9)), (tn_10, .inl (k 0, 4, .inl tng10))] H1 := hP
    have hD : va_D A [(ob, .inr (3, [.ref oba, .ref ob_1])), (ob_1, .inl (k 2, 1000, .inr (.inl obg1))), (tn_6, .inl (k 0, 10, .inl tng6)), (oba, .inr (1, [.ref oba_0, .int o_5, .int o_6])), (oba_0, .inl (k 0, 8, .inl o_7)), (tn, .inr (10, [.int tnv0, .int tnv1, .int tnv2, .ref tn_3, .ref tn_4, .ref tn_5, .ref tn_6, .int tnv7, .int tnv8, .ref tn_9, .ref tn_10, .int tnv11, .ref tn_12, .ref tn_13, .ref tn_14, .ref tn_15, .int tnv16, .ref tn_17, .ref tn_18, .ref tnt])), (tn_3, .inl (k 0, 10, .inl tng3)), (tn_4, .inl (k 0, 10, .inl tng4)), (tn_5, .inl (k 0, 10, .inl tng5)), (tn_9, .inl (k 0, 4, .inl tng9)), (tn_10, .inl (k 0, 4, .inl tng10))] := hD
    generalize H1 = H at hP hS ⊢
    have hw_13 : (0 ≤ r_12.toInt ∧ r_12.toInt ≤ 1023) := hw
    have hw_14 := hw_13
    clear hw
    refine lv_iload_n hx hb dX3_weighLanes_43 rfl (lv_at hl 4 rfl) ?_
    refine lv_iconst (v := (-1)) hx hb dX3_weighLanes_44 (by decide) ?_
    refine lv_ixor hx hb dX3_weighLanes_45 ?_
    refine lv_topi (fun x_15 ex_15 => ?_)
    have zrp2 := z_rng p2
    refine lv_iand hx hb dX3_weighLanes_46 ?_
    refine lv_topi (fun x_16 ex_16 => ?_)
    have zrx_15 := z_rng x_15
    have zx_16 : 0 ≤ x_16.toInt ∧ x_16.toInt ≤ r_12.toInt := by rw [ex_16]; exact z_andL (by omega)
    refine lv_istore (lv' := [(9, .int x_16), (8, .int x_10), (0, .ref ob), (1, .ref tn), (2, .int p1), (3, .int p2), (4, .int p3), (5, .long p4), (7, .int 3)]) hx hb dX3_weighLanes_47 hl (by decide) rfl (fun ls hl => ?_)
    refine lv_iload hx hb dX3_weighLanes_49 (lv_at hl 0 rfl) ?_
    refine lv_iload hx hb dX3_weighLanes_51 (lv_at hl 0 rfl) ?_
    refine lv_ineg hx hb dX3_weighLanes_53 ?_
    refine lv_topi (fun x_17 ex_17 => ?_)
    refine lv_iand hx hb dX3_weighLanes_54 ?_
    refine lv_topi (fun x_18 ex_18 => ?_)
    have zrx_17 := z_rng x_17
    have zx_18 : 0 ≤ x_18.toInt ∧ x_18.toInt ≤ x_16.toInt := by rw [ex_18]; exact z_andL (by omega)
    refine lv_iconst (v := 1) hx hb dX3_weighLanes_55 (by decide) ?_
    refine lv_isub hx hb dX3_weighLanes_56 ?_
    refine lv_topi (fun x_19 ex_19 => ?_)
    have zx_19 : x_19.toInt = x_18.toInt - 1 := by rw [ex_19]; exact z_sub rfl rfl (by omega) (by omega)
    obtain ⟨hPc, hDc, hFc⟩ := sub3 hP hD hS hA (ws' := []) [] (by decide +kernel) rfl
    refine va_calli (va_runS (As := [.int x_19]) (rest := []) ⟨hx, hb, hml, hown, hts⟩ (c_J6_bitCount_0f7a4 l D k x_19 H.size) (va_cwS 1 hts (gS tw_5_158 tw_4_101 tw_1_20 tw_4_102) rfl rfl rfl hdS_J6_bitCount_0f7a4 ⟨Nat.le_of_ble_eq_true rfl, Nat.le_of_ble_eq_true rfl⟩) (cz_S hK hPc hDc hN [.int x_19]) rfl rfl hl.1 rfl (lv_room (Nat.le_of_ble_eq_true rfl)) dX3_weighLanes_57 ⟨Nat.le_of_ble_eq_true rfl, Nat.le_of_ble_eq_true rfl⟩) hS (fun q _ h => hFc q h) hFc (fun r_20 uZ tZ H1 locs ht hvm hw hB hz1 hk1 hS => ?_)
    obtain ⟨hP1, hK1, hD1⟩ := hB
    rw [ht] at hP1
    obtain ⟨hP, hD⟩ := va_join (wr := [(ob, .inr (3, [.ref oba, .ref ob_1])), (ob_1, .inl (k 2, 1000, .inr (.inl obg1))), (tn_6, .inl (k 0, 10, .inl tng6)), (oba, .inr (1, [.ref oba_0, .int o_5, .int o_6])), (oba_0, .inl (k 0, 8, .inl o_7)), (tn, .inr (10, [.int tnv0, .int tnv1, .int tnv2, .ref tn_3, .ref tn_4, .ref tn_5, .ref tn_6, .int tnv7, .int tnv8, .ref tn_9, .ref tn_10, .int tnv11, .ref tn_12, .ref tn_13, .ref tn_14, .ref tn_15, .int tnv16, .ref tn_17, .ref tn_18, .ref tnt])), (tn_3, .inl (k 0, 10, .inl tng3)), (tn_4, .inl (k 0, 10, .inl tng4)), (tn_5, .inl (k 0, 10, .inl tng5)), (tn_9, .inl (k 0, 4, .inl tng9)), (tn_10, .inl (k 0, 4, .inl tng10))]) (w1 := []) hP hD [] [0, 1, 2, 3, 4, 5, 6, 7, 8, 9, 10] rfl rfl (by decide +kernel) (by decide +kernel) hk1 hFc hP1 hD1
    clear hK1 hP1 hD1 hPc hDc hFc
    clear hk1 hz1 ht hvm
    have hP : va_P D vwCl [(ob, .inr (3, [.ref oba, .ref ob_1])), (ob_1, .inl (k 2, 1000, .inr (.inl obg1))), (tn_6, .inl (k 0, 10, .inl tng6)), (oba, .inr (1, [.ref oba_0, .int o_5, .int o_6])), (oba_0, .inl (k 0, 8, .inl o_7)), (tn, .inr (10, [.int tnv0, .int tnv1, .int tnv2, .ref tn_3, .ref tn_4, .ref tn_5, .ref tn_6, .int tnv7, .int tnv8, .ref tn_9, .ref tn_10, .int tnv11, .ref tn_12, .ref tn_13, .ref tn_14, .ref tn_15, .int tnv16, .ref tn_17, .ref tn_18, .ref tnt])), (tn_3, .inl (k 0, 10, .inl tng3)), (tn_4, .inl (k 0, 10, .inl tng4)), (tn_5, .inl (k 0, 10, .inl tng5)), (tn_9, .inl (k 0, 4, .inl tng9)), (tn_10, .inl (k 0, 4, .inl tng10))] H1 := hP
    have hD : va_D A [(ob, .inr (3, [.ref oba, .ref ob_1])), (ob_1, .inl (k 2, 1000, .inr (.inl obg1))), (tn_6, .inl (k 0, 10, .inl tng6)), (oba, .inr (1, [.ref oba_0, .int o_5, .int o_6])), (oba_0, .inl (k 0, 8, .inl o_7)), (tn, .inr (10, [.int tnv0, .int tnv1, .int tnv2, .ref tn_3, .ref tn_4, .ref tn_5, .ref tn_6, .int tnv7, .int tnv8, .ref tn_9, .ref tn_10, .int tnv11, .ref tn_12, .ref tn_13, .ref tn_14, .ref tn_15, .int tnv16, .ref tn_17, .ref tn_18, .ref tnt])), (tn_3, .inl (k 0, 10, .inl tng3)), (tn_4, .inl (k 0, 10, .inl tng4)), (tn_5, .inl (k 0, 10, .inl tng5)), (tn_9, .inl (k 0, 4, .inl tng9)), (tn_10, .inl (k 0, 4, .inl tng10))] := hD
    generalize H1 = H at hP hS ⊢
    have hw_21 : (0 ≤ r_20.toInt ∧ r_20.toInt ≤ 63) := hw
    have hw_22 := hw_21
    clear hw
    refine lv_istore (lv' := [(10, .int r_20), (9, .int x_16), (8, .int x_10), (0, .ref ob), (1, .ref tn), (2, .int p1), (3, .int p2), (4, .int p3), (5, .long p4), (7, .int 3)]) hx hb dX3_weighLanes_60 hl (by decide) rfl (fun ls hl => ?_)
    refine lv_iload hx hb dX3_weighLanes_62 (lv_at hl 1 rfl) ?_
    refine lv_if_eq (tgt := 81) hx hb dX3_weighLanes_64 (by decide) (fun h_23 => ?_) (fun h_23 => ?_)
    · skip
      have zh_23 : x_16.toInt = 0 := z_eq h_23
      refine lv_aload_n hx hb dX3_weighLanes_81 rfl (lv_at hl 3 rfl) ?_
      refine va_get (D := D) (ci := 3) (v := .ref ob_1) (C := RX3) (T := TX3) (N := 2) hx hb hts iT_X3 hown hK hP 0 rfl rfl 1 (by decide) (hts _ tw_2_164) (fun _ h9 => h9) rfl dX3_weighLanes_82 ?_
      refine lv_iload hx hb dX3_weighLanes_85 (lv_at hl 2 rfl) ?_
      refine lv_dup2_11 hx hb dX3_weighLanes_87 rfl rfl ?_
      refine va_lald hx hb hK hP 1 2 rfl rfl (z_in (by omega) (by omega)) dX3_weighLanes_88 ?_
      refine lv_topl (fun x_24 ex_24 => ?_)
      refine lv_lload hx hb dX3_weighLanes_89 (lv_at hl 8 rfl) ?_
      refine lv_ladd hx hb dX3_weighLanes_91 ?_
      refine lv_topl (fun x_25 ex_25 => ?_)
      refine va_last hx hb hK hP hD hS 1 2 rfl rfl (z_in (by omega) (by omega)) dX3_weighLanes_92 (fun H locs hP hD hS => ?_)
      obtain ⟨g_26, eg_26⟩ : ∃ z : Nat → Int64, vp_updL obg1 x_10.toNatClampNeg x_25 = z := ⟨_, rfl⟩
      have hP : va_P D vwCl [(ob, .inr (3, [.ref oba, .ref ob_1])), (ob_1, .inl (k 2, 1000, .inr (.inl (vp_updL obg1 x_10.toNatClampNeg x_25)))), (tn_6, .inl (k 0, 10, .inl tng6)), (oba, .inr (1, [.ref oba_0, .int o_5, .int o_6])), (oba_0, .inl (k 0, 8, .inl o_7)), (tn, .inr (10, [.int tnv0, .int tnv1, .int tnv2, .ref tn_3, .ref tn_4, .ref tn_5, .ref tn_6, .int tnv7, .int tnv8, .ref tn_9, .ref tn_10, .int tnv11, .ref tn_12, .ref tn_13, .ref tn_14, .ref tn_15, .int tnv16, .ref tn_17, .ref tn_18, .ref tnt])), (tn_3, .inl (k 0, 10, .inl tng3)), (tn_4, .inl (k 0, 10, .inl tng4)), (tn_5, .inl (k 0, 10, .inl tng5)), (tn_9, .inl (k 0, 4, .inl tng9)), (tn_10, .inl (k 0, 4, .inl tng10))] H := hP
      have hD : va_D A [(ob, .inr (3, [.ref oba, .ref ob_1])), (ob_1, .inl (k 2, 1000, .inr (.inl (vp_updL obg1 x_10.toNatClampNeg x_25)))), (tn_6, .inl (k 0, 10, .inl tng6)), (oba, .inr (1, [.ref oba_0, .int o_5, .int o_6])), (oba_0, .inl (k 0, 8, .inl o_7)), (tn, .inr (10, [.int tnv0, .int tnv1, .int tnv2, .ref tn_3, .ref tn_4, .ref tn_5, .ref tn_6, .int tnv7, .int tnv8, .ref tn_9, .ref tn_10, .int tnv11, .ref tn_12, .ref tn_13, .ref tn_14, .ref tn_15, .int tnv16, .ref tn_17, .ref tn_18, .ref tnt])), (tn_3, .inl (k 0, 10, .inl tng3)), (tn_4, .inl (k 0, 10, .inl tng4)), (tn_5, .inl (k 0, 10, .inl tng5)), (tn_9, .inl (k 0, 4, .inl tng9)), (tn_10, .inl (k 0, 4, .inl tng10))] := hD
      rw [eg_26] at hP hD
      obtain ⟨hP9, hD9⟩ := sub2 hP hD (ws' := [(ob, .inr (3, [.ref oba, .ref ob_1])), (oba, .inr (1, [.ref oba_0, .int o_5, .int o_6])), (oba_0, .inl (k 0, 8, .inl o_7)), (ob_1, .inl (k 2, 1000, .inr (.inl g_26))), (tn, .inr (10, [.int tnv0, .int tnv1, .int tnv2, .ref tn_3, .ref tn_4, .ref tn_5, .ref tn_6, .int tnv7, .int tnv8, .ref tn_9, .ref tn_10, .int tnv11, .ref tn_12, .ref tn_13, .ref tn_14, .ref tn_15, .int tnv16, .ref tn_17, .ref tn_18, .ref tnt])), (tn_3, .inl (k 0, 10, .inl tng3)), (tn_4, .inl (k 0, 10, .inl tng4)), (tn_5, .inl (k 0, 10, .inl tng5)), (tn_6, .inl (k 0, 10, .inl tng6)), (tn_9, .inl (k 0, 4, .inl tng9)), (tn_10, .inl (k 0, 4, .inl tng10))]) [0, 3, 4, 1, 5, 6, 7, 8, 2, 9, 10] (by decide +kernel) rfl
      exact W.vret hx hb hr (fun tZ ht hW => ⟨⟨(o_5, o_6, o_7, g_26), rfl, hw_9, by rw [ht]; exact hP9, va_K.moved hW.alike hK, hD9⟩, hS.F ht⟩) hS.2.2 dX3_weighLanes_93
    · skip
      have zh_23 : ¬ x_16.toInt = 0 := z_ne h_23
      refine lv_iload hx hb dX3_weighLanes_67 (lv_at hl 0 rfl) ?_
      refine lv_bipush (v := 10) hx hb dX3_weighLanes_69 (by decide) ?_
      refine lv_icmp_ge (tgt := 81) hx hb dX3_weighLanes_71 (by decide) (fun h_27 => ?_) (fun h_27 => ?_)
      · skip
        have zh_27 : 10 ≤ r_20.toInt := z_le h_27
        refine lv_aload_n hx hb dX3_weighLanes_81 rfl (lv_at hl 3 rfl) ?_
        refine va_get (D := D) (ci := 3) (v := .ref ob_1) (C := RX3) (T := TX3) (N := 2) hx hb hts iT_X3 hown hK hP 0 rfl rfl 1 (by decide) (hts _ tw_2_164) (fun _ h9 => h9) rfl dX3_weighLanes_82 ?_
        refine lv_iload hx hb dX3_weighLanes_85 (lv_at hl 2 rfl) ?_
        refine lv_dup2_11 hx hb dX3_weighLanes_87 rfl rfl ?_
        refine va_lald hx hb hK hP 1 2 rfl rfl (z_in (by omega) (by omega)) dX3_weighLanes_88 ?_
        refine lv_topl (fun x_28 ex_28 => ?_)
        refine lv_lload hx hb dX3_weighLanes_89 (lv_at hl 8 rfl) ?_
        refine lv_ladd hx hb dX3_weighLanes_91 ?_
        refine lv_topl (fun x_29 ex_29 => ?_)
        refine va_last hx hb hK hP hD hS 1 2 rfl rfl (z_in (by omega) (by omega)) dX3_weighLanes_92 (fun H locs hP hD hS => ?_)
        obtain ⟨g_30, eg_30⟩ : ∃ z : Nat → Int64, vp_updL obg1 x_10.toNatClampNeg x_29 = z := ⟨_, rfl⟩
        have hP : va_P D vwCl [(ob, .inr (3, [.ref oba, .ref ob_1])), (ob_1, .inl (k 2, 1000, .inr (.inl (vp_updL obg1 x_10.toNatClampNeg x_29)))), (tn_6, .inl (k 0, 10, .inl tng6)), (oba, .inr (1, [.ref oba_0, .int o_5, .int o_6])), (oba_0, .inl (k 0, 8, .inl o_7)), (tn, .inr (10, [.int tnv0, .int tnv1, .int tnv2, .ref tn_3, .ref tn_4, .ref tn_5, .ref tn_6, .int tnv7, .int tnv8, .ref tn_9, .ref tn_10, .int tnv11, .ref tn_12, .ref tn_13, .ref tn_14, .ref tn_15, .int tnv16, .ref tn_17, .ref tn_18, .ref tnt])), (tn_3, .inl (k 0, 10, .inl tng3)), (tn_4, .inl (k 0, 10, .inl tng4)), (tn_5, .inl (k 0, 10, .inl tng5)), (tn_9, .inl (k 0, 4, .inl tng9)), (tn_10, .inl (k 0, 4, .inl tng10))] H := hP
        have hD : va_D A [(ob, .inr (3, [.ref oba, .ref ob_1])), (ob_1, .inl (k 2, 1000, .inr (.inl (vp_updL obg1 x_10.toNatClampNeg x_29)))), (tn_6, .inl (k 0, 10, .inl tng6)), (oba, .inr (1, [.ref oba_0, .int o_5, .int o_6])), (oba_0, .inl (k 0, 8, .inl o_7)), (tn, .inr (10, [.int tnv0, .int tnv1, .int tnv2, .ref tn_3, .ref tn_4, .ref tn_5, .ref tn_6, .int tnv7, .int tnv8, .ref tn_9, .ref tn_10, .int tnv11, .ref tn_12, .ref tn_13, .ref tn_14, .ref tn_15, .int tnv16, .ref tn_17, .ref tn_18, .ref tnt])), (tn_3, .inl (k 0, 10, .inl tng3)), (tn_4, .inl (k 0, 10, .inl tng4)), (tn_5, .inl (k 0, 10, .inl tng5)), (tn_9, .inl (k 0, 4, .inl tng9)), (tn_10, .inl (k 0, 4, .inl tng10))] := hD
        rw [eg_30] at hP hD
        obtain ⟨hP9, hD9⟩ := sub2 hP hD (ws' := [(ob, .inr (3, [.ref oba, .ref ob_1])), (oba, .inr (1, [.ref oba_0, .int o_5, .int o_6])), (oba_0, .inl (k 0, 8, .inl o_7)), (ob_1, .inl (k 2, 1000, .inr (.inl g_30))), (tn, .inr (10, [.int tnv0, .int tnv1, .int tnv2, .ref tn_3, .ref tn_4, .ref tn_5, .ref tn_6, .int tnv7, .int tnv8, .ref tn_9, .ref tn_10, .int tnv11, .ref tn_12, .ref tn_13, .ref tn_14, .ref tn_15, .int tnv16, .ref tn_17, .ref tn_18, .ref tnt])), (tn_3, .inl (k 0, 10, .inl tng3)), (tn_4, .inl (k 0, 10, .inl tng4)), (tn_5, .inl (k 0, 10, .inl tng5)), (tn_6, .inl (k 0, 10, .inl tng6)), (tn_9, .inl (k 0, 4, .inl tng9)), (tn_10, .inl (k 0, 4, .inl tng10))]) [0, 3, 4, 1, 5, 6, 7, 8, 2, 9, 10] (by decide +kernel) rfl
        exact W.vret hx hb hr (fun tZ ht hW => ⟨⟨(o_5, o_6, o_7, g_30), rfl, hw_9, by rw [ht]; exact hP9, va_K.moved hW.alike hK, hD9⟩, hS.F ht⟩) hS.2.2 dX3_weighLanes_93
      · skip
        have zh_27 : r_20.toInt < 10 := z_nle h_27
        refine lv_iload hx hb dX3_weighLanes_74 (lv_at hl 9 rfl) ?_
        refine lv_bipush (v := 10) hx hb dX3_weighLanes_76 (by decide) ?_
        refine lv_icmp_lt (tgt := 94) hx hb dX3_weighLanes_78 (by decide) (fun _ => ?_) (fun c9 => absurd c9 (by decide))
        refine lv_iconst (v := 1) hx hb dX3_weighLanes_94 (by decide) ?_
        refine lv_iload hx hb dX3_weighLanes_95 (lv_at hl 0 rfl) ?_
        refine lv_ishl hx hb dX3_weighLanes_97 ?_
        refine lv_topi (fun x_31 ex_31 => ?_)
        have zx_31 : 1 ≤ x_31.toInt ∧ x_31.toInt ≤ 512 := by rw [ex_31]; exact z_shl1 9 512 rfl (by decide) (by omega) (by omega)
        refine lv_istore (lv' := [(11, .int x_31), (10, .int r_20), (9, .int x_16), (8, .int x_10), (0, .ref ob), (1, .ref tn), (2, .int p1), (3, .int p2), (4, .int p3), (5, .long p4), (7, .int 3)]) hx hb dX3_weighLanes_98 hl (by decide) rfl (fun ls hl => ?_)
        refine lv_lload hx hb dX3_weighLanes_100 (lv_at hl 9 rfl) ?_
        refine lv_ldc2 (v := 10) hx hb hown (hts _ tw_5_159) dX3_weighLanes_102 ?_
        refine lv_ldiv hx hb dX3_weighLanes_105 (by decide) ?_
        refine lv_topl (fun x_32 ex_32 => ?_)
        refine lv_lstore (lv' := [(12, .long x_32), (11, .int x_31), (10, .int r_20), (9, .int x_16), (8, .int x_10), (0, .ref ob), (1, .ref tn), (2, .int p1), (3, .int p2), (4, .int p3), (5, .long p4), (7, .int 3)]) hx hb dX3_weighLanes_106 hl (by decide) rfl (fun ls hl => ?_)
        refine lv_aload_n hx hb dX3_weighLanes_108 rfl (lv_at hl 5 rfl) ?_
        refine lv_aload_n hx hb dX3_weighLanes_109 rfl (lv_at hl 6 rfl) ?_
        refine lv_iload_n hx hb dX3_weighLanes_110 rfl (lv_at hl 7 rfl) ?_
        refine lv_iload_n hx hb dX3_weighLanes_111 rfl (lv_at hl 8 rfl) ?_
        refine lv_iload hx hb dX3_weighLanes_112 (lv_at hl 1 rfl) ?_
        refine lv_ior hx hb dX3_weighLanes_114 ?_
        refine lv_topi (fun x_33 ex_33 => ?_)
        refine lv_iload hx hb dX3_weighLanes_115 (lv_at hl 9 rfl) ?_
        refine lv_lload hx hb dX3_weighLanes_117 (lv_at hl 0 rfl) ?_
        refine lv_bipush (v := 10) hx hb dX3_weighLanes_119 (by decide) ?_
        refine lv_aload_n hx hb dX3_weighLanes_121 rfl (lv_at hl 6 rfl) ?_
        refine va_get (D := D) (ci := 10) (v := .ref tn_6) (C := RX10) (T := TX10) (N := 20) hx hb hts iT_X10 hown hK hP 5 rfl rfl 6 (by decide) (hts _ tw_1_98) (fun _ h9 => h9) rfl dX3_weighLanes_122 ?_
        refine lv_iload hx hb dX3_weighLanes_125 (lv_at hl 2 rfl) ?_
        refine va_iald hx hb hK hP 2 0 rfl rfl (z_in (by omega) (by omega)) dX3_weighLanes_127 ?_
        refine lv_topi (fun x_34 ex_34 => ?_)
        have zx_34r0 : 0 ≤ x_34.toInt ∧ x_34.toInt ≤ 10 := by rw [ex_34]; exact PR.ld hp_tng6_0 (by omega) (by omega) (by omega)
        refine lv_isub hx hb dX3_weighLanes_128 ?_
        refine lv_topi (fun x_35 ex_35 => ?_)
        have zx_35 : x_35.toInt = 10 - x_34.toInt := by rw [ex_35]; exact z_sub rfl rfl (by omega) (by omega)
        refine lv_i2l (v := x_35.toInt64) hx hb dX3_weighLanes_129 rfl ?_
        refine lv_lmul hx hb dX3_weighLanes_130 ?_
        refine lv_topl (fun x_36 ex_36 => ?_)
        refine lv_iload hx hb dX3_weighLanes_131 (lv_at hl 11 rfl) ?_
        refine lv_iconst (v := 1) hx hb dX3_weighLanes_133 (by decide) ?_
        refine lv_iadd hx hb dX3_weighLanes_134 ?_
        refine lv_topi (fun x_37 ex_37 => ?_)
        obtain rfl : x_37 = 4 := ex_37.trans (by decide)
        obtain ⟨hPc, hDc, hFc⟩ := sub3 hP hD hS hA (ws' := [(ob, .inr (3, [.ref oba, .ref ob_1])), (oba, .inr (1, [.ref oba_0, .int o_5, .int o_6])), (oba_0, .inl (k 0, 8, .inl o_7)), (ob_1, .inl (k 2, 1000, .inr (.inl obg1))), (tn, .inr (10, [.int tnv0, .int tnv1, .int tnv2, .ref tn_3, .ref tn_4, .ref tn_5, .ref tn_6, .int tnv7, .int tnv8, .ref tn_9, .ref tn_10, .int tnv11, .ref tn_12, .ref tn_13, .ref tn_14, .ref tn_15, .int tnv16, .ref tn_17, .ref tn_18, .ref tnt])), (tn_3, .inl (k 0, 10, .inl tng3)), (tn_4, .inl (k 0, 10, .inl tng4)), (tn_5, .inl (k 0, 10, .inl tng5)), (tn_6, .inl (k 0, 10, .inl tng6)), (tn_9, .inl (k 0, 4, .inl tng9)), (tn_10, .inl (k 0, 4, .inl tng10))]) [0, 3, 4, 1, 5, 6, 7, 8, 2, 9, 10] (by decide +kernel) rfl
        refine va_callv (va_runV (C := RX3) (As := [.ref tn, .int p1, .int x_33, .int p3, .long x_36, .int 4]) (rest := []) ⟨hx, hb, hml, hown, hts⟩ (c_X3_weighLanes_6 l D k ob tn p1 x_33 p3 x_36 oba ob_1 oba_0 o_5 o_6 o_7 obg1 tnv0 tnv1 tnv2 tn_3 tn_4 tn_5 tn_6 tnv7 tnv8 tn_9 tn_10 tnv11 tn_12 tn_13 tn_14 tn_15 tnv16 tn_17 tn_18 tnt tng3 tng4 tng5 tng6 tng9 tng10 H.size (show 0 ≤ p1.toInt ∧ p1.toInt ≤ 7 from by omega) hw_9 (show 0 ≤ tnv0.toInt ∧ tnv0.toInt ≤ 8 from by omega) (show 0 ≤ tnv2.toInt ∧ tnv2.toInt ≤ 10 from by omega) (show 0 ≤ tnv8.toInt ∧ tnv8.toInt ≤ 4 from by omega) (show 0 ≤ tnv11.toInt ∧ tnv11.toInt ≤ 6 from by omega) (show 0 ≤ tnv16.toInt ∧ tnv16.toInt ≤ 2 from by omega) hp_tng3_0 hp_tng4_0 hp_tng5_0 hp_tng6_0 hp_tng9_0 hp_tng10_0) (cwV 6 hts (gV tw_5_151 tw_5_153 tw_p_34 tw_1_12 tw_5_154) rfl rfl rfl hdV_X3_weighLanes ⟨Nat.le_of_ble_eq_true rfl, Nat.le_of_ble_eq_true rfl⟩) (cz_V hK hPc hDc hN (ci := 3) (q0 := 0) rfl rfl [.ref tn, .int p1, .int x_33, .int p3, .long x_36, .int 4]) rfl rfl hl.1 rfl (lv_room (Nat.le_of_ble_eq_true rfl)) dX3_weighLanes_135 ⟨Nat.le_of_ble_eq_true rfl, Nat.le_of_ble_eq_true rfl⟩) hS (fun q _ h => hFc q h) hFc (fun uZ tZ H1 locs ht hvm hw hB hz1 hk1 hS => ?_)
        obtain ⟨o_39, o_40, o_41, o_42⟩ := uZ
        obtain ⟨hP1, hK1, hD1⟩ := hB
        rw [ht] at hP1
        obtain ⟨hP, hD⟩ := va_join (wr := []) (w1 := [(ob, .inr (3, [.ref oba, .ref ob_1])), (oba, .inr (1, [.ref oba_0, .int o_39, .int o_40])), (oba_0, .inl (k 0, 8, .inl o_41)), (ob_1, .inl (k 2, 1000, .inr (.inl o_42))), (tn, .inr (10, [.int tnv0, .int tnv1, .int tnv2, .ref tn_3, .ref tn_4, .ref tn_5, .ref tn_6, .int tnv7, .int tnv8, .ref tn_9, .ref tn_10, .int tnv11, .ref tn_12, .ref tn_13, .ref tn_14, .ref tn_15, .int tnv16, .ref tn_17, .ref tn_18, .ref tnt])), (tn_3, .inl (k 0, 10, .inl tng3)), (tn_4, .inl (k 0, 10, .inl tng4)), (tn_5, .inl (k 0, 10, .inl tng5)), (tn_6, .inl (k 0, 10, .inl tng6)), (tn_9, .inl (k 0, 4, .inl tng9)), (tn_10, .inl (k 0, 4, .inl tng10))]) hP hD [0, 3, 4, 1, 5, 6, 7, 8, 2, 9, 10] [] rfl rfl (by decide +kernel) (by decide +kernel) hk1 hFc hP1 hD1
        clear hK1 hP1 hD1 hPc hDc hFc
        clear hk1 hz1 ht hvm
        have hP : va_P D vwCl [(ob, .inr (3, [.ref oba, .ref ob_1])), (oba, .inr (1, [.ref oba_0, .int o_39, .int o_40])), (oba_0, .inl (k 0, 8, .inl o_41)), (ob_1, .inl (k 2, 1000, .inr (.inl o_42))), (tn, .inr (10, [.int tnv0, .int tnv1, .int tnv2, .ref tn_3, .ref tn_4, .ref tn_5, .ref tn_6, .int tnv7, .int tnv8, .ref tn_9, .ref tn_10, .int tnv11, .ref tn_12, .ref tn_13, .ref tn_14, .ref tn_15, .int tnv16, .ref tn_17, .ref tn_18, .ref tnt])), (tn_3, .inl (k 0, 10, .inl tng3)), (tn_4, .inl (k 0, 10, .inl tng4)), (tn_5, .inl (k 0, 10, .inl tng5)), (tn_6, .inl (k 0, 10, .inl tng6)), (tn_9, .inl (k 0, 4, .inl tng9)), (tn_10, .inl (k 0, 4, .inl tng10))] H1 := hP
        have hD : va_D A [(ob, .inr (3, [.ref oba, .ref ob_1])), (oba, .inr (1, [.ref oba_0, .int o_39, .int o_40])), (oba_0, .inl (k 0, 8, .inl o_41)), (ob_1, .inl (k 2, 1000, .inr (.inl o_42))), (tn, .inr (10, [.int tnv0, .int tnv1, .int tnv2, .ref tn_3, .ref tn_4, .ref tn_5, .ref tn_6, .int tnv7, .int tnv8, .ref tn_9, .ref tn_10, .int tnv11, .ref tn_12, .ref tn_13, .ref tn_14, .ref tn_15, .int tnv16, .ref tn_17, .ref tn_18, .ref tnt])), (tn_3, .inl (k 0, 10, .inl tng3)), (tn_4, .inl (k 0, 10, .inl tng4)), (tn_5, .inl (k 0, 10, .inl tng5)), (tn_6, .inl (k 0, 10, .inl tng6)), (tn_9, .inl (k 0, 4, .inl tng9)), (tn_10, .inl (k 0, 4, .inl tng10))] := hD
        generalize H1 = H at hP hS ⊢
        have hw_43 : (PR 8 1 0 0 1000000 o_41) := hw
        have hw_44 := hw_43
        clear hw
        refine lv_aload_n hx hb dX3_weighLanes_138 rfl (lv_at hl 5 rfl) ?_
        refine lv_aload_n hx hb dX3_weighLanes_139 rfl (lv_at hl 6 rfl) ?_
        refine lv_iload_n hx hb dX3_weighLanes_140 rfl (lv_at hl 7 rfl) ?_
        refine lv_iload_n hx hb dX3_weighLanes_141 rfl (lv_at hl 8 rfl) ?_
        refine lv_iload hx hb dX3_weighLanes_142 (lv_at hl 1 rfl) ?_
        refine lv_ior hx hb dX3_weighLanes_144 ?_
        refine lv_topi (fun x_45 ex_45 => ?_)
        obtain rfl : x_33 = x_45 := ex_33.trans ex_45.symm
        refine lv_iload hx hb dX3_weighLanes_145 (lv_at hl 9 rfl) ?_
        refine lv_iload hx hb dX3_weighLanes_147 (lv_at hl 1 rfl) ?_
        refine lv_ior hx hb dX3_weighLanes_149 ?_
        refine lv_topi (fun x_46 ex_46 => ?_)
        have zrp3 := z_rng p3
        refine lv_lload hx hb dX3_weighLanes_150 (lv_at hl 0 rfl) ?_
        refine lv_aload_n hx hb dX3_weighLanes_152 rfl (lv_at hl 6 rfl) ?_
        refine va_get (D := D) (ci := 10) (v := .ref tn_6) (C := RX10) (T := TX10) (N := 20) hx hb hts iT_X10 hown hK hP 4 rfl rfl 6 (by decide) (hts _ tw_1_98) (fun _ h9 => h9) rfl dX3_weighLanes_153 ?_
        refine lv_iload hx hb dX3_weighLanes_156 (lv_at hl 2 rfl) ?_
        refine va_iald hx hb hK hP 8 0 rfl rfl (z_in (by omega) (by omega)) dX3_weighLanes_158 ?_
        refine lv_topi (fun x_47 ex_47 => ?_)
        obtain rfl : x_34 = x_47 := ex_34.trans ex_47.symm
        refine lv_i2l (v := x_34.toInt64) hx hb dX3_weighLanes_159 rfl ?_
        refine lv_lmul hx hb dX3_weighLanes_160 ?_
        refine lv_topl (fun x_48 ex_48 => ?_)
        refine lv_iload hx hb dX3_weighLanes_161 (lv_at hl 11 rfl) ?_
        refine lv_iconst (v := 1) hx hb dX3_weighLanes_163 (by decide) ?_
        refine lv_iadd hx hb dX3_weighLanes_164 ?_
        refine lv_topi (fun x_49 ex_49 => ?_)
        obtain rfl : x_49 = 4 := ex_49.trans (by decide)
        obtain ⟨hPc, hDc, hFc⟩ := sub3 hP hD hS hA (ws' := [(ob, .inr (3, [.ref oba, .ref ob_1])), (oba, .inr (1, [.ref oba_0, .int o_39, .int o_40])), (oba_0, .inl (k 0, 8, .inl o_41)), (ob_1, .inl (k 2, 1000, .inr (.inl o_42))), (tn, .inr (10, [.int tnv0, .int tnv1, .int tnv2, .ref tn_3, .ref tn_4, .ref tn_5, .ref tn_6, .int tnv7, .int tnv8, .ref tn_9, .ref tn_10, .int tnv11, .ref tn_12, .ref tn_13, .ref tn_14, .ref tn_15, .int tnv16, .ref tn_17, .ref tn_18, .ref tnt])), (tn_3, .inl (k 0, 10, .inl tng3)), (tn_4, .inl (k 0, 10, .inl tng4)), (tn_5, .inl (k 0, 10, .inl tng5)), (tn_6, .inl (k 0, 10, .inl tng6)), (tn_9, .inl (k 0, 4, .inl tng9)), (tn_10, .inl (k 0, 4, .inl tng10))]) [0, 1, 2, 3, 4, 5, 6, 7, 8, 9, 10] (by decide +kernel) rfl
        refine va_callv (va_runV (C := RX3) (As := [.ref tn, .int p1, .int x_33, .int x_46, .long x_48, .int 4]) (rest := []) ⟨hx, hb, hml, hown, hts⟩ (c_X3_weighLanes_6 l D k ob tn p1 x_33 x_46 x_48 oba ob_1 oba_0 o_39 o_40 o_41 o_42 tnv0 tnv1 tnv2 tn_3 tn_4 tn_5 tn_6 tnv7 tnv8 tn_9 tn_10 tnv11 tn_12 tn_13 tn_14 tn_15 tnv16 tn_17 tn_18 tnt tng3 tng4 tng5 tng6 tng9 tng10 H.size (show 0 ≤ p1.toInt ∧ p1.toInt ≤ 7 from by omega) hw_44 (show 0 ≤ tnv0.toInt ∧ tnv0.toInt ≤ 8 from by omega) (show 0 ≤ tnv2.toInt ∧ tnv2.toInt ≤ 10 from by omega) (show 0 ≤ tnv8.toInt ∧ tnv8.toInt ≤ 4 from by omega) (show 0 ≤ tnv11.toInt ∧ tnv11.toInt ≤ 6 from by omega) (show 0 ≤ tnv16.toInt ∧ tnv16.toInt ≤ 2 from by omega) hp_tng3_0 hp_tng4_0 hp_tng5_0 hp_tng6_0 hp_tng9_0 hp_tng10_0) (cwV 6 hts (gV tw_5_151 tw_5_153 tw_p_34 tw_1_12 tw_5_154) rfl rfl rfl hdV_X3_weighLanes ⟨Nat.le_of_ble_eq_true rfl, Nat.le_of_ble_eq_true rfl⟩) (cz_V hK hPc hDc hN (ci := 3) (q0 := 0) rfl rfl [.ref tn, .int p1, .int x_33, .int x_46, .long x_48, .int 4]) rfl rfl hl.1 rfl (lv_room (Nat.le_of_ble_eq_true rfl)) dX3_weighLanes_165 ⟨Nat.le_of_ble_eq_true rfl, Nat.le_of_ble_eq_true rfl⟩) hS (fun q _ h => hFc q h) hFc (fun uZ tZ H1 locs ht hvm hw hB hz1 hk1 hS => ?_)
        obtain ⟨o_51, o_52, o_53, o_54⟩ := uZ
        obtain ⟨hP1, hK1, hD1⟩ := hB
        rw [ht] at hP1
        obtain ⟨hP, hD⟩ := va_join (wr := []) (w1 := [(ob, .inr (3, [.ref oba, .ref ob_1])), (oba, .inr (1, [.ref oba_0, .int o_51, .int o_52])), (oba_0, .inl (k 0, 8, .inl o_53)), (ob_1, .inl (k 2, 1000, .inr (.inl o_54))), (tn, .inr (10, [.int tnv0, .int tnv1, .int tnv2, .ref tn_3, .ref tn_4, .ref tn_5, .ref tn_6, .int tnv7, .int tnv8, .ref tn_9, .ref tn_10, .int tnv11, .ref tn_12, .ref tn_13, .ref tn_14, .ref tn_15, .int tnv16, .ref tn_17, .ref tn_18, .ref tnt])), (tn_3, .inl (k 0, 10, .inl tng3)), (tn_4, .inl (k 0, 10, .inl tng4)), (tn_5, .inl (k 0, 10, .inl tng5)), (tn_6, .inl (k 0, 10, .inl tng6)), (tn_9, .inl (k 0, 4, .inl tng9)), (tn_10, .inl (k 0, 4, .inl tng10))]) hP hD [0, 1, 2, 3, 4, 5, 6, 7, 8, 9, 10] [] rfl rfl (by decide +kernel) (by decide +kernel) hk1 hFc hP1 hD1
        clear hK1 hP1 hD1 hPc hDc hFc
        clear hk1 hz1 ht hvm
        have hP : va_P D vwCl [(ob, .inr (3, [.ref oba, .ref ob_1])), (oba, .inr (1, [.ref oba_0, .int o_51, .int o_52])), (oba_0, .inl (k 0, 8, .inl o_53)), (ob_1, .inl (k 2, 1000, .inr (.inl o_54))), (tn, .inr (10, [.int tnv0, .int tnv1, .int tnv2, .ref tn_3, .ref tn_4, .ref tn_5, .ref tn_6, .int tnv7, .int tnv8, .ref tn_9, .ref tn_10, .int tnv11, .ref tn_12, .ref tn_13, .ref tn_14, .ref tn_15, .int tnv16, .ref tn_17, .ref tn_18, .ref tnt])), (tn_3, .inl (k 0, 10, .inl tng3)), (tn_4, .inl (k 0, 10, .inl tng4)), (tn_5, .inl (k 0, 10, .inl tng5)), (tn_6, .inl (k 0, 10, .inl tng6)), (tn_9, .inl (k 0, 4, .inl tng9)), (tn_10, .inl (k 0, 4, .inl tng10))] H1 := hP
        have hD : va_D A [(ob, .inr (3, [.ref oba, .ref ob_1])), (oba, .inr (1, [.ref oba_0, .int o_51, .int o_52])), (oba_0, .inl (k 0, 8, .inl o_53)), (ob_1, .inl (k 2, 1000, .inr (.inl o_54))), (tn, .inr (10, [.int tnv0, .int tnv1, .int tnv2, .ref tn_3, .ref tn_4, .ref tn_5, .ref tn_6, .int tnv7, .int tnv8, .ref tn_9, .ref tn_10, .int tnv11, .ref tn_12, .ref tn_13, .ref tn_14, .ref tn_15, .int tnv16, .ref tn_17, .ref tn_18, .ref tnt])), (tn_3, .inl (k 0, 10, .inl tng3)), (tn_4, .inl (k 0, 10, .inl tng4)), (tn_5, .inl (k 0, 10, .inl tng5)), (tn_6, .inl (k 0, 10, .inl tng6)), (tn_9, .inl (k 0, 4, .inl tng9)), (tn_10, .inl (k 0, 4, .inl tng10))] := hD
        generalize H1 = H at hP hS ⊢
        have hw_55 : (PR 8 1 0 0 1000000 o_53) := hw
        have hw_56 := hw_55
        clear hw
        obtain ⟨hP9, hD9⟩ := sub2 hP hD (ws' := [(ob, .inr (3, [.ref oba, .ref ob_1])), (oba, .inr (1, [.ref oba_0, .int o_51, .int o_52])), (oba_0, .inl (k 0, 8, .inl o_53)), (ob_1, .inl (k 2, 1000, .inr (.inl o_54))), (tn, .inr (10, [.int tnv0, .int tnv1, .int tnv2, .ref tn_3, .ref tn_4, .ref tn_5, .ref tn_6, .int tnv7, .int tnv8, .ref tn_9, .ref tn_10, .int tnv11, .ref tn_12, .ref tn_13, .ref tn_14, .ref tn_15, .int tnv16, .ref tn_17, .ref tn_18, .ref tnt])), (tn_3, .inl (k 0, 10, .inl tng3)), (tn_4, .inl (k 0, 10, .inl tng4)), (tn_5, .inl (k 0, 10, .inl tng5)), (tn_6, .inl (k 0, 10, .inl tng6)), (tn_9, .inl (k 0, 4, .inl tng9)), (tn_10, .inl (k 0, 4, .inl tng10))]) [0, 1, 2, 3, 4, 5, 6, 7, 8, 9, 10] (by decide +kernel) rfl
        exact W.vret hx hb hr (fun tZ ht hW => ⟨⟨(o_51, o_52, o_53, o_54), rfl, hw_56, by rw [ht]; exact hP9, va_K.moved hW.alike hK, hD9⟩, hS.F ht⟩) hS.2.2 dX3_weighLanes_168
  · skip
    have zh_11 : 1000 ≤ x_10.toInt := z_nlt h_11
    obtain ⟨hP9, hD9⟩ := sub2 hP hD (ws' := [(ob, .inr (3, [.ref oba, .ref ob_1])), (oba, .inr (1, [.ref oba_0, .int o_5, .int o_6])), (oba_0, .inl (k 0, 8, .inl o_7)), (ob_1, .inl (k 2, 1000, .inr (.inl obg1))), (tn, .inr (10, [.int tnv0, .int tnv1, .int tnv2, .ref tn_3, .ref tn_4, .ref tn_5, .ref tn_6, .int tnv7, .int tnv8, .ref tn_9, .ref tn_10, .int tnv11, .ref tn_12, .ref tn_13, .ref tn_14, .ref tn_15, .int tnv16, .ref tn_17, .ref tn_18, .ref tnt])), (tn_3, .inl (k 0, 10, .inl tng3)), (tn_4, .inl (k 0, 10, .inl tng4)), (tn_5, .inl (k 0, 10, .inl tng5)), (tn_6, .inl (k 0, 10, .inl tng6)), (tn_9, .inl (k 0, 4, .inl tng9)), (tn_10, .inl (k 0, 4, .inl tng10))]) [0, 3, 4, 1, 5, 6, 7, 8, 2, 9, 10] (by decide +kernel) rfl
    exact W.vret hx hb hr (fun tZ ht hW => ⟨⟨(o_5, o_6, o_7, obg1), rfl, hw_9, by rw [ht]; exact hP9, va_K.moved hW.alike hK, hD9⟩, hS.F ht⟩) hS.2.2 dX3_weighLanes_33
set_option maxHeartbeats 4000000 in
set_option maxRecDepth 100000 in
theorem c_X3_weighLanes_8 (l : Launch) (D : va_G) (k : Nat → ClassId) (ob : Nat) (tn : Nat) (p1 : Int32) (p2 : Int32) (p3 : Int32) (p4 : Int64) (oba : Nat) (ob_1 : Nat) (oba_0 : Nat) (obav1 : Int32) (obav2 : Int32) (obag0 : Nat → Int32) (obg1 : Nat → Int64) (tnv0 : Int32) (tnv1 : Int32) (tnv2 : Int32) (tn_3 : Nat) (tn_4 : Nat) (tn_5 : Nat) (tn_6 : Nat) (tnv7 : Int32) (tnv8 : Int32) (tn_9 : Nat) (tn_10 : Nat) (tnv11 : Int32) (tn_12 : Nat) (tn_13 : Nat) (tn_14 : Nat) (tn_15 : Nat) (tnv16 : Int32) (tn_17 : Nat) (tn_18 : Nat) (tnt : Nat) (tng3 : Nat → Int32) (tng4 : Nat → Int32) (tng5 : Nat → Int32) (tng6 : Nat → Int32) (tng9 : Nat → Int32) (tng10 : Nat → Int32) (sz : Nat) (h_p1 : 0 ≤ p1.toInt ∧ p1.toInt ≤ 7) (hp_obag0_0 : PR 8 1 0 0 1000000 obag0) (h_tnv0 : 0 ≤ tnv0.toInt ∧ tnv0.toInt ≤ 8) (h_tnv2 : 0 ≤ tnv2.toInt ∧ tnv2.toInt ≤ 10) (h_tnv8 : 0 ≤ tnv8.toInt ∧ tnv8.toInt ≤ 4) (h_tnv11 : 0 ≤ tnv11.toInt ∧ tnv11.toInt ≤ 6) (h_tnv16 : 0 ≤ tnv16.toInt ∧ tnv16.toInt ≤ 2) (hp_tng3_0 : PR 10 1 0 0 7 tng3) (hp_tng4_0 : PR 10 1 0 0 7 tng4) (hp_tng5_0 : PR 10 1 0 0 60 tng5) (hp_tng6_0 : PR 10 1 0 0 10 tng6) (hp_tng9_0 : PR 4 1 0 0 7 tng9) (hp_tng10_0 : PR 4 1 0 0 99 tng10) : Met l yX3_weighLanes (ww yX3_weighLanes cX3_weighLanes 14 none) ({ frames := 12, cells := 0, slots := 0, locals := 364 }) (Pre0 D k [(ob, .inr (3, [.ref oba, .ref ob_1])), (oba, .inr (1, [.ref oba_0, .int obav1, .int obav2])), (oba_0, .inl (k 0, 8, .inl obag0)), (ob_1, .inl (k 2, 1000, .inr (.inl obg1))), (tn, .inr (10, [.int tnv0, .int tnv1, .int tnv2, .ref tn_3, .ref tn_4, .ref tn_5, .ref tn_6, .int tnv7, .int tnv8, .ref tn_9, .ref tn_10, .int tnv11, .ref tn_12, .ref tn_13, .ref tn_14, .ref tn_15, .int tnv16, .ref tn_17, .ref tn_18, .ref tnt])), (tn_3, .inl (k 0, 10, .inl tng3)), (tn_4, .inl (k 0, 10, .inl tng4)), (tn_5, .inl (k 0, 10, .inl tng5)), (tn_6, .inl (k 0, 10, .inl tng6)), (tn_9, .inl (k 0, 4, .inl tng9)), (tn_10, .inl (k 0, 4, .inl tng10))] sz [.ref ob, .ref tn, .int p1, .int p2, .int p3, .long p4, .int 2]) (va_Qv (fun (u : Int32 × Int32 × (Nat → Int32) × (Nat → Int64)) => match u with | (obav1z, obav2z, obag0z, obg1z) => (PR 8 1 0 0 1000000 obag0z)) (fun (u : Int32 × Int32 × (Nat → Int32) × (Nat → Int64)) tZ => match u with | (obav1z, obav2z, obag0z, obg1z) => Bw D k (va_A [(ob, .inr (3, [.ref oba, .ref ob_1])), (oba, .inr (1, [.ref oba_0, .int obav1, .int obav2])), (oba_0, .inl (k 0, 8, .inl obag0)), (ob_1, .inl (k 2, 1000, .inr (.inl obg1))), (tn, .inr (10, [.int tnv0, .int tnv1, .int tnv2, .ref tn_3, .ref tn_4, .ref tn_5, .ref tn_6, .int tnv7, .int tnv8, .ref tn_9, .ref tn_10, .int tnv11, .ref tn_12, .ref tn_13, .ref tn_14, .ref tn_15, .int tnv16, .ref tn_17, .ref tn_18, .ref tnt])), (tn_3, .inl (k 0, 10, .inl tng3)), (tn_4, .inl (k 0, 10, .inl tng4)), (tn_5, .inl (k 0, 10, .inl tng5)), (tn_6, .inl (k 0, 10, .inl tng6)), (tn_9, .inl (k 0, 4, .inl tng9)), (tn_10, .inl (k 0, 4, .inl tng10))] sz) [(ob, .inr (3, [.ref oba, .ref ob_1])), (oba, .inr (1, [.ref oba_0, .int obav1z, .int obav2z])), (oba_0, .inl (k 0, 8, .inl obag0z)), (ob_1, .inl (k 2, 1000, .inr (.inl obg1z))), (tn, .inr (10, [.int tnv0, .int tnv1, .int tnv2, .ref tn_3, .ref tn_4, .ref tn_5, .ref tn_6, .int tnv7, .int tnv8, .ref tn_9, .ref tn_10, .int tnv11, .ref tn_12, .ref tn_13, .ref tn_14, .ref tn_15, .int tnv16, .ref tn_17, .ref tn_18, .ref tnt])), (tn_3, .inl (k 0, 10, .inl tng3)), (tn_4, .inl (k 0, 10, .inl tng4)), (tn_5, .inl (k 0, 10, .inl tng5)), (tn_6, .inl (k 0, 10, .inl tng6)), (tn_9, .inl (k 0, 4, .inl tng9)), (tn_10, .inl (k 0, 4, .inl tng10))] tZ) (va_A [(ob, .inr (3, [.ref oba, .ref ob_1])), (oba, .inr (1, [.ref oba_0, .int obav1, .int obav2])), (oba_0, .inl (k 0, 8, .inl obag0)), (ob_1, .inl (k 2, 1000, .inr (.inl obg1))), (tn, .inr (10, [.int tnv0, .int tnv1, .int tnv2, .ref tn_3, .ref tn_4, .ref tn_5, .ref tn_6, .int tnv7, .int tnv8, .ref tn_9, .ref tn_10, .int tnv11, .ref tn_12, .ref tn_13, .ref tn_14, .ref tn_15, .int tnv16, .ref tn_17, .ref tn_18, .ref tnt])), (tn_3, .inl (k 0, 10, .inl tng3)), (tn_4, .inl (k 0, 10, .inl tng4)), (tn_5, .inl (k 0, 10, .inl tng5)), (tn_6, .inl (k 0, 10, .inl tng6)), (tn_9, .inl (k 0, 4, .inl tng9)), (tn_10, .inl (k 0, 4, .inl tng10))] sz)) 0 0 (va_A [(ob, .inr (3, [.ref oba, .ref ob_1])), (oba, .inr (1, [.ref oba_0, .int obav1, .int obav2])), (oba_0, .inl (k 0, 8, .inl obag0)), (ob_1, .inl (k 2, 1000, .inr (.inl obg1))), (tn, .inr (10, [.int tnv0, .int tnv1, .int tnv2, .ref tn_3, .ref tn_4, .ref tn_5, .ref tn_6, .int tnv7, .int tnv8, .ref tn_9, .ref tn_10, .int tnv11, .ref tn_12, .ref tn_13, .ref tn_14, .ref tn_15, .int tnv16, .ref tn_17, .ref tn_18, .ref tnt])), (tn_3, .inl (k 0, 10, .inl tng3)), (tn_4, .inl (k 0, 10, .inl tng4)), (tn_5, .inl (k 0, 10, .inl tng5)), (tn_6, .inl (k 0, 10, .inl tng6)), (tn_9, .inl (k 0, 4, .inl tng9)), (tn_10, .inl (k 0, 4, .inl tng10))] sz) := by
  refine Met.ofW (cc := cX3_weighLanes) (maxL := 14) (ret := none) (by decide +kernel) rfl ?_
  intro p e s m args below meth c s₁ B hml hv
  obtain ⟨rfl, hsz, hP, hK, hD0, hN⟩ := hv
  have hx := B.exec
  have hb := B.bytes
  have hr := B.returns
  have hts : ∀ w ∈ TT, w.before _ s = true := fun w h => atoms_spec (ws := ww yX3_weighLanes cX3_weighLanes 14 none) B.pre w (List.mem_cons_of_mem _ h)
  have hown : s.vm.findClass RX3 = some m.cls := findClass_of_methodNamed B.named
  have hlocks := B.notSynchronized
  subst hsz
  have hD := hD0.self (sz := s.heap.size)
  generalize hAe : va_A [(ob, .inr (3, [.ref oba, .ref ob_1])), (oba, .inr (1, [.ref oba_0, .int obav1, .int obav2])), (oba_0, .inl (k 0, 8, .inl obag0)), (ob_1, .inl (k 2, 1000, .inr (.inl obg1))), (tn, .inr (10, [.int tnv0, .int tnv1, .int tnv2, .ref tn_3, .ref tn_4, .ref tn_5, .ref tn_6, .int tnv7, .int tnv8, .ref tn_9, .ref tn_10, .int tnv11, .ref tn_12, .ref tn_13, .ref tn_14, .ref tn_15, .int tnv16, .ref tn_17, .ref tn_18, .ref tnt])), (tn_3, .inl (k 0, 10, .inl tng3)), (tn_4, .inl (k 0, 10, .inl tng4)), (tn_5, .inl (k 0, 10, .inl tng5)), (tn_6, .inl (k 0, 10, .inl tng6)), (tn_9, .inl (k 0, 4, .inl tng9)), (tn_10, .inl (k 0, 4, .inl tng10))] s.heap.size = A at hD ⊢
  have hA : ∀ q : Nat, s.heap.size ≤ q → A q := fun q h => by rw [← hAe]; exact Or.inr h
  have hS : va_S A s.heap s.heap [] := va_S.rf
  have hl := lv_entry ([.ref ob, .ref tn, .int p1, .int p2, .int p3, .long p4, .int 2]) (n := 14) (Nat.le_of_ble_eq_true rfl)
  rw [lg_entry_eq]
  generalize (lg_sl ([.ref ob, .ref tn, .int p1, .int p2, .int p3, .long p4, .int 2]) ++ List.replicate (14 - (lg_sl ([.ref ob, .ref tn, .int p1, .int p2, .int p3, .long p4, .int 2])).length) Slot.unset).toArray = ls at hl ⊢
  have hl : lv_has ls 14 [(0, .ref ob), (1, .ref tn), (2, .int p1), (3, .int p2), (4, .int p3), (5, .long p4), (7, .int 2)] := hl
  refine lv_aload_n hx hb dX3_weighLanes_0 rfl (lv_at hl 0 rfl) ?_
  refine va_get (D := D) (ci := 3) (v := .ref oba) (C := RX3) (T := TX3) (N := 2) hx hb hts iT_X3 hown hK hP 0 rfl rfl 0 (by decide) (hts _ tw_2_163) (fun _ h9 => h9) rfl dX3_weighLanes_1 ?_
  refine lv_aload_n hx hb dX3_weighLanes_4 rfl (lv_at hl 1 rfl) ?_
  refine lv_aload_n hx hb dX3_weighLanes_5 rfl (lv_at hl 1 rfl) ?_
  obtain ⟨hPc, hDc, hFc⟩ := sub3 hP hD hS hA (ws' := [(tn, .inr (10, [.int tnv0, .int tnv1, .int tnv2, .ref tn_3, .ref tn_4, .ref tn_5, .ref tn_6, .int tnv7, .int tnv8, .ref tn_9, .ref tn_10, .int tnv11, .ref tn_12, .ref tn_13, .ref tn_14, .ref tn_15, .int tnv16, .ref tn_17, .ref tn_18, .ref tnt]))]) [4] (by decide +kernel) rfl
  refine va_calli (va_runV (C := RX10) (As := []) (rest := [.ref tn, .ref oba]) ⟨hx, hb, hml, hown, hts⟩ (c_X10_openLanes l D k tn tnv0 tnv1 tnv2 tn_3 tn_4 tn_5 tn_6 tnv7 tnv8 tn_9 tn_10 tnv11 tn_12 tn_13 tn_14 tn_15 tnv16 tn_17 tn_18 tnt s.heap.size (show 0 ≤ tnv0.toInt ∧ tnv0.toInt ≤ 8 from by omega) (show 0 ≤ tnv2.toInt ∧ tnv2.toInt ≤ 10 from by omega) (show 0 ≤ tnv8.toInt ∧ tnv8.toInt ≤ 4 from by omega) (show 0 ≤ tnv11.toInt ∧ tnv11.toInt ≤ 6 from by omega) (show 0 ≤ tnv16.toInt ∧ tnv16.toInt ≤ 2 from by omega)) (cwV 0 hts (gV tw_5_155 tw_3_180 tw_3_181 tw_1_3 tw_3_182) rfl rfl rfl hdV_X10_openLanes ⟨Nat.le_of_ble_eq_true rfl, Nat.le_of_ble_eq_true rfl⟩) (cz_V hK hPc hDc hN (ci := 10) (q0 := 0) rfl rfl []) rfl rfl hl.1 rfl (lv_room (Nat.le_of_ble_eq_true rfl)) dX3_weighLanes_6 ⟨Nat.le_of_ble_eq_true rfl, Nat.le_of_ble_eq_true rfl⟩) hS (fun q _ h => hFc q h) hFc (fun r_1 uZ tZ H1 locs ht hvm hw hB hz1 hk1 hS => ?_)
  obtain ⟨hP1, hK1, hD1⟩ := hB
  rw [ht] at hP1
  obtain ⟨hP, hD⟩ := va_join (wr := [(ob, .inr (3, [.ref oba, .ref ob_1])), (oba, .inr (1, [.ref oba_0, .int obav1, .int obav2])), (oba_0, .inl (k 0, 8, .inl obag0)), (ob_1, .inl (k 2, 1000, .inr (.inl obg1))), (tn_3, .inl (k 0, 10, .inl tng3)), (tn_4, .inl (k 0, 10, .inl tng4)), (tn_5, .inl (k 0, 10, .inl tng5)), (tn_6, .inl (k 0, 10, .inl tng6)), (tn_9, .inl (k 0, 4, .inl tng9)), (tn_10, .inl (k 0, 4, .inl tng10))]) (w1 := [(tn, .inr (10, [.int tnv0, .int tnv1, .int tnv2, .ref tn_3, .ref tn_4, .ref tn_5, .ref tn_6, .int tnv7, .int tnv8, .ref tn_9, .ref tn_10, .int tnv11, .ref tn_12, .ref tn_13, .ref tn_14, .ref tn_15, .int tnv16, .ref tn_17, .ref tn_18, .ref tnt]))]) hP hD [4] [0, 1, 2, 3, 5, 6, 7, 8, 9, 10] rfl rfl (by decide +kernel) (by decide +kernel) hk1 hFc hP1 hD1
  clear hK1 hP1 hD1 hPc hDc hFc
  clear hk1 hz1 ht hvm
  have hP : va_P D vwCl [(ob, .inr (3, [.ref oba, .ref ob_1])), (oba, .inr (1, [.ref oba_0, .int obav1, .int obav2])), (oba_0, .inl (k 0, 8, .inl obag0)), (ob_1, .inl (k 2, 1000, .inr (.inl obg1))), (tn_3, .inl (k 0, 10, .inl tng3)), (tn_4, .inl (k 0, 10, .inl tng4)), (tn_5, .inl (k 0, 10, .inl tng5)), (tn_6, .inl (k 0, 10, .inl tng6)), (tn_9, .inl (k 0, 4, .inl tng9)), (tn_10, .inl (k 0, 4, .inl tng10)), (tn, .inr (10, [.int tnv0, .int tnv1, .int tnv2, .ref tn_3, .ref tn_4, .ref tn_5, .ref tn_6, .int tnv7, .int tnv8, .ref tn_9, .ref tn_10, .int tnv11, .ref tn_12, .ref tn_13, .ref tn_14, .ref tn_15, .int tnv16, .ref tn_17, .ref tn_18, .ref tnt]))] H1 := hP
  have hD : va_D A [(ob, .inr (3, [.ref oba, .ref ob_1])), (oba, .inr (1, [.ref oba_0, .int obav1, .int obav2])), (oba_0, .inl (k 0, 8, .inl obag0)), (ob_1, .inl (k 2, 1000, .inr (.inl obg1))), (tn_3, .inl (k 0, 10, .inl tng3)), (tn_4, .inl (k 0, 10, .inl tng4)), (tn_5, .inl (k 0, 10, .inl tng5)), (tn_6, .inl (k 0, 10, .inl tng6)), (tn_9, .inl (k 0, 4, .inl tng9)), (tn_10, .inl (k 0, 4, .inl tng10)), (tn, .inr (10, [.int tnv0, .int tnv1, .int tnv2, .ref tn_3, .ref tn_4, .ref tn_5, .ref tn_6, .int tnv7, .int tnv8, .ref tn_9, .ref tn_10, .int tnv11, .ref tn_12, .ref tn_13, .ref tn_14, .ref tn_15, .int tnv16, .ref tn_17, .ref tn_18, .ref tnt]))] := hD
  generalize H1 = H at hP hS ⊢
  have hw_2 : (0 ≤ r_1.toInt ∧ r_1.toInt ≤ 1023) := hw
  have hw_3 := hw_2
  clear hw
  refine lv_iload hx hb dX3_weighLanes_9 (lv_at hl 4 rfl) ?_
  obtain ⟨hPc, hDc, hFc⟩ := sub3 hP hD hS hA (ws' := [(oba, .inr (1, [.ref oba_0, .int obav1, .int obav2])), (oba_0, .inl (k 0, 8, .inl obag0)), (tn, .inr (10, [.int tnv0, .int tnv1, .int tnv2, .ref tn_3, .ref tn_4, .ref tn_5, .ref tn_6, .int tnv7, .int tnv8, .ref tn_9, .ref tn_10, .int tnv11, .ref tn_12, .ref tn_13, .ref tn_14, .ref tn_15, .int tnv16, .ref tn_17, .ref tn_18, .ref tnt])), (tn_3, .inl (k 0, 10, .inl tng3)), (tn_4, .inl (k 0, 10, .inl tng4)), (tn_5, .inl (k 0, 10, .inl tng5)), (tn_9, .inl (k 0, 4, .inl tng9)), (tn_10, .inl (k 0, 4, .inl tng10))]) [1, 2, 10, 4, 5, 6, 8, 9] (by decide +kernel) rfl
  refine va_callv (va_runV (C := RX1) (As := [.ref tn, .int r_1, .int p3]) (rest := []) ⟨hx, hb, hml, hown, hts⟩ (c_X1_fall l D k oba tn r_1 p3 oba_0 obav1 obav2 obag0 tnv0 tnv1 tnv2 tn_3 tn_4 tn_5 tn_6 tnv7 tnv8 tn_9 tn_10 tnv11 tn_12 tn_13 tn_14 tn_15 tnv16 tn_17 tn_18 tnt tng3 tng4 tng5 tng9 tng10 H.size hp_obag0_0 (show 0 ≤ tnv0.toInt ∧ tnv0.toInt ≤ 8 from by omega) (show 0 ≤ tnv2.toInt ∧ tnv2.toInt ≤ 10 from by omega) (show 0 ≤ tnv8.toInt ∧ tnv8.toInt ≤ 4 from by omega) (show 0 ≤ tnv11.toInt ∧ tnv11.toInt ≤ 6 from by omega) (show 0 ≤ tnv16.toInt ∧ tnv16.toInt ≤ 2 from by omega) hp_tng3_0 hp_tng4_0 hp_tng5_0 hp_tng9_0 hp_tng10_0) (cwV 3 hts (gV tw_5_156 tw_3_184 tw_3_185 tw_1_6 tw_3_186) rfl rfl rfl hdV_X1_fall ⟨Nat.le_of_ble_eq_true rfl, Nat.le_of_ble_eq_true rfl⟩) (cz_V hK hPc hDc hN (ci := 1) (q0 := 0) rfl rfl [.ref tn, .int r_1, .int p3]) rfl rfl hl.1 rfl (lv_room (Nat.le_of_ble_eq_true rfl)) dX3_weighLanes_11 ⟨Nat.le_of_ble_eq_true rfl, Nat.le_of_ble_eq_true rfl⟩) hS (fun q _ h => hFc q h) hFc (fun uZ tZ H1 locs ht hvm hw hB hz1 hk1 hS => ?_)
  obtain ⟨o_5, o_6, o_7⟩ := uZ
  obtain ⟨hP1, hK1, hD1⟩ := hB
  rw [ht] at hP1
  obtain ⟨hP, hD⟩ := va_join (wr := [(ob, .inr (3, [.ref oba, .ref ob_1])), (ob_1, .inl (k 2, 1000, .inr (.inl obg1))), (tn_6, .inl (k 0, 10, .inl tng6))]) (w1 := [(oba, .inr (1, [.ref oba_0, .int o_5, .int o_6])), (oba_0, .inl (k 0, 8, .inl o_7)), (tn, .inr (10, [.int tnv0, .int tnv1, .int tnv2, .ref tn_3, .ref tn_4, .ref tn_5, .ref tn_6, .int tnv7, .int tnv8, .ref tn_9, .ref tn_10, .int tnv11, .ref tn_12, .ref tn_13, .ref tn_14, .ref tn_15, .int tnv16, .ref tn_17, .ref tn_18, .ref tnt])), (tn_3, .inl (k 0, 10, .inl tng3)), (tn_4, .inl (k 0, 10, .inl tng4)), (tn_5, .inl (k 0, 10, .inl tng5)), (tn_9, .inl (k 0, 4, .inl tng9)), (tn_10, .inl (k 0, 4, .inl tng10))]) hP hD [1, 2, 10, 4, 5, 6, 8, 9] [0, 3, 7] rfl rfl (by decide +kernel) (by decide +kernel) hk1 hFc hP1 hD1
  clear hK1 hP1 hD1 hPc hDc hFc
  clear hk1 hz1 ht hvm
  have hP : va_P D vwCl [(ob, .inr (3, [.ref oba, .ref ob_1])), (ob_1, .inl (k 2, 1000, .inr (.inl obg1))), (tn_6, .inl (k 0, 10, .inl tng6)), (oba, .inr (1, [.ref oba_0, .int o_5, .int o_6])), (oba_0, .inl (k 0, 8, .inl o_7)), (tn, .inr (10, [.int tnv0, .int tnv1, .int tnv2, .ref tn_3, .ref tn_4, .ref tn_5, .ref tn_6, .int tnv7, .int tnv8, .ref tn_9, .ref tn_10, .int tnv11, .ref tn_12, .ref tn_13, .ref tn_14, .ref tn_15, .int tnv16, .ref tn_17, .ref tn_18, .ref tnt])), (tn_3, .inl (k 0, 10, .inl tng3)), (tn_4, .inl (k 0, 10, .inl tng4)), (tn_5, .inl (k 0, 10, .inl tng5)), (tn_9, .inl (k 0, 4, .inl tng9)), (tn_10, .inl (k 0, 4, .inl tng10))] H1 := hP
  have hD : va_D A [(ob, .inr (3, [.ref oba, .ref ob_1])), (ob_1, .inl (k 2, 1000, .inr (.inl obg1))), (tn_6, .inl (k 0, 10, .inl tng6)), (oba, .inr (1, [.ref oba_0, .int o_5, .int o_6])), (oba_0, .inl (k 0, 8, .inl o_7)), (tn, .inr (10, [.int tnv0, .int tnv1, .int tnv2, .ref tn_3, .ref tn_4, .ref tn_5, .ref tn_6, .int tnv7, .int tnv8, .ref tn_9, .ref tn_10, .int tnv11, .ref tn_12, .ref tn_13, .ref tn_14, .ref tn_15, .int tnv16, .ref tn_17, .ref tn_18, .ref tnt])), (tn_3, .inl (k 0, 10, .inl tng3)), (tn_4, .inl (k 0, 10, .inl tng4)), (tn_5, .inl (k 0, 10, .inl tng5)), (tn_9, .inl (k 0, 4, .inl tng9)), (tn_10, .inl (k 0, 4, .inl tng10))] := hD
  generalize H1 = H at hP hS ⊢
  have hw_8 : (PR 8 1 0 0 1000000 o_7) := hw
  have hw_9 := hw_8
  clear hw
  refine lv_aload_n hx hb dX3_weighLanes_14 rfl (lv_at hl 0 rfl) ?_
  refine va_get (D := D) (ci := 3) (v := .ref oba) (C := RX3) (T := TX3) (N := 2) hx hb hts iT_X3 hown hK hP 0 rfl rfl 0 (by decide) (hts _ tw_2_163) (fun _ h9 => h9) rfl dX3_weighLanes_15 ?_
  refine va_get (D := D) (ci := 1) (v := .ref oba_0) (C := RX1) (T := TX1) (N := 3) hx hb hts iT_X1 hown hK hP 3 rfl rfl 0 (by decide) (hts _ tw_2_21) (fun _ h9 => h9) rfl dX3_weighLanes_18 ?_
  refine lv_iload_n hx hb dX3_weighLanes_21 rfl (lv_at hl 2 rfl) ?_
  refine va_iald hx hb hK hP 4 0 rfl rfl (z_in (by omega) (by omega)) dX3_weighLanes_22 ?_
  refine lv_topi (fun x_10 ex_10 => ?_)
  have zx_10r0 : 0 ≤ x_10.toInt ∧ x_10.toInt ≤ 1000000 := by rw [ex_10]; exact PR.ld hw_9 (by omega) (by omega) (by omega)
  refine lv_istore (lv' := [(8, .int x_10), (0, .ref ob), (1, .ref tn), (2, .int p1), (3, .int p2), (4, .int p3), (5, .long p4), (7, .int 2)]) hx hb dX3_weighLanes_23 hl (by decide) rfl (fun ls hl => ?_)
  refine lv_iload hx hb dX3_weighLanes_25 (lv_at hl 0 rfl) ?_
  refine lv_sipush (v := 1000) hx hb dX3_weighLanes_27 (by decide) ?_
  refine lv_icmp_lt (tgt := 34) hx hb dX3_weighLanes_30 (by decide) (fun h_11 => ?_) (fun h_11 => ?_)
  · skip
    have zh_11 : x_10.toInt < 1000 := z_lt h_11
    refine lv_aload_n hx hb dX3_weighLanes_34 rfl (lv_at hl 1 rfl) ?_
    refine va_get (D := D) (ci := 3) (v := .ref oba) (C := RX3) (T := TX3) (N := 2) hx hb hts iT_X3 hown hK hP 0 rfl rfl 0 (by decide) (hts _ tw_2_163) (fun _ h9 => h9) rfl dX3_weighLanes_35 ?_
    refine lv_aload_n hx hb dX3_weighLanes_38 rfl (lv_at hl 2 rfl) ?_
    refine lv_iload_n hx hb dX3_weighLanes_39 rfl (lv_at hl 3 rfl) ?_
    obtain ⟨hPc, hDc, hFc⟩ := sub3 hP hD hS hA (ws' := [(oba, .inr (1, [.ref oba_0, .int o_5, .int o_6])), (oba_0, .inl (k 0, 8, .inl o_7)), (tn, .inr (10, [.int tnv0, .int tnv1, .int tnv2, .ref tn_3, .ref tn_4, .ref tn_5, .ref tn_6, .int tnv7, .int tnv8, .ref tn_9, .ref tn_10, .int tnv11, .ref tn_12, .ref tn_13, .ref tn_14, .ref tn_15, .int tnv16, .ref tn_17, .ref tn_18, .ref tnt])), (tn_3, .inl (k 0, 10, .inl tng3)), (tn_4, .inl (k 0, 10, .inl tng4)), (tn_5, .inl (k 0, 10, .inl tng5)), (tn_9, .inl (k 0, 4, .inl tng9)), (tn_10, .inl (k 0, 4, .inl tng10))]) [3, 4, 5, 6, 7, 8, 9, 10] (by decide +kernel) rfl
    refine va_calli (va_runV (C := RX1) (As := [.ref tn, .int p1]) (rest := []) ⟨hx, hb, hml, hown, hts⟩ (c_X1_wayTo l D k oba tn p1 oba_0 o_5 o_6 o_7 tnv0 tnv1 tnv2 tn_3 tn_4 tn_5 tn_6 tnv7 tnv8 tn_9 tn_10 tnv11 tn_12 tn_13 tn_14 tn_15 tnv16 tn_17 tn_18 tnt tng3 tng4 tng5 tng9 tng10 H.size (show 0 ≤ p1.toInt ∧ p1.toInt ≤ 7 from by omega) hw_9 (show 0 ≤ tnv0.toInt ∧ tnv0.toInt ≤ 8 from by omega) (show 0 ≤ tnv2.toInt ∧ tnv2.toInt ≤ 10 from by omega) (show 0 ≤ tnv8.toInt ∧ tnv8.toInt ≤ 4 from by omega) (show 0 ≤ tnv11.toInt ∧ tnv11.toInt ≤ 6 from by omega) (show 0 ≤ tnv16.toInt ∧ tnv16.toInt ≤ 2 from by omega) hp_tng3_0 hp_tng4_0 hp_tng5_0 hp_tng9_0 hp_tng10_0) (cwV 2 hts (gV tw_5_157 tw_4_96 tw_4_97 tw_1_6 tw_4_98) rfl rfl rfl hdV_X1_wayTo ⟨Nat.le_of_ble_eq_true rfl, Nat.le_of_ble_eq_true rfl⟩) (cz_V hK hPc hDc hN (ci := 1) (q0 := 0) rfl rfl [.ref tn, .int p1]) rfl rfl hl.1 rfl (lv_room (Nat.le_of_ble_eq_true rfl)) dX3_weighLanes_40 ⟨Nat.le_of_ble_eq_true rfl, Nat.le_of_ble_eq_true rfl⟩) hS (fun q _ h => hFc q h) hFc (fun r_12 uZ tZ H1 locs ht hvm hw hB hz1 hk1 hS => ?_)
    obtain ⟨hP1, hK1, hD1⟩ := hB
    rw [ht] at hP1
    obtain ⟨hP, hD⟩ := va_join (wr := [(ob, .inr (3, [.ref oba, .ref ob_1])), (ob_1, .inl (k 2, 1000, .inr (.inl obg1))), (tn_6, .inl (k 0, 10, .inl tng6))]) (w1 := [(oba, .inr (1, [.ref oba_0, .int o_5, .int o_6])), (oba_0, .inl (k 0, 8, .inl o_7)), (tn, .inr (10, [.int tnv0, .int tnv1, .int tnv2, .ref tn_3, .ref tn_4, .ref tn_5, .ref tn_6, .int tnv7, .int tnv8, .ref tn_9, .ref tn_10, .int tnv11, .ref tn_12, .ref tn_13, .ref tn_14, .ref tn_15, .int tnv16, .ref tn_17, .ref tn_18, .ref tnt])), (tn_3, .inl (k 0, 10, .inl tng3)), (tn_4, .inl (k 0, 10, .inl tng4)), (tn_5, .inl (k 0, 10, .inl tng5)), (tn_9, .inl (k 0, 4, .inl tng9)), (tn_10, .inl (k 0, 4, .inl tng10))]) hP hD [3, 4, 5, 6, 7, 8, 9, 10] [0, 1, 2] rfl rfl (by decide +kernel) (by decide +kernel) hk1 hFc hP1 hD1
    clear hK1 hP1 hD1 hPc hDc hFc
    clear hk1 hz1 ht hvm
    have hP : va_P D vwCl [(ob, .inr (3, [.ref oba, .ref ob_1])), (ob_1, .inl (k 2, 1000, .inr (.inl obg1))), (tn_6, .inl (k 0, 10, .inl tng6)), (oba, .inr (1, [.ref oba_0, .int o_5, .int o_6])), (oba_0, .inl (k 0, 8, .inl o_7)), (tn, .inr (10, [.int tnv0, .int tnv1, .int tnv2, .ref tn_3, .ref tn_4, .ref tn_5, .ref tn_6, .int tnv7, .int tnv8, .ref tn_9, .ref tn_10, .int tnv11, .ref tn_12, .ref tn_13, .ref tn_14, .ref tn_15, .int tnv16, .ref tn_17, .ref tn_18, .ref tnt])), (tn_3, .inl (k 0, 10, .inl tng3)), (tn_4, .inl (k 0, 10, .inl tng4)), (tn_5, .inl (k 0, 10, .inl tng5)), (tn_9, .inl (k 0, 4, .inl tng9)), (tn_10, .inl (k 0, 4, .inl tng10))] H1 := hP
    have hD : va_D A [(ob, .inr (3, [.ref oba, .ref ob_1])), (ob_1, .inl (k 2, 1000, .inr (.inl obg1))), (tn_6, .inl (k 0, 10, .inl tng6)), (oba, .inr (1, [.ref oba_0, .int o_5, .int o_6])), (oba_0, .inl (k 0, 8, .inl o_7)), (tn, .inr (10, [.int tnv0, .int tnv1, .int tnv2, .ref tn_3, .ref tn_4, .ref tn_5, .ref tn_6, .int tnv7, .int tnv8, .ref tn_9, .ref tn_10, .int tnv11, .ref tn_12, .ref tn_13, .ref tn_14, .ref tn_15, .int tnv16, .ref tn_17, .ref tn_18, .ref tnt])), (tn_3, .inl (k 0, 10, .inl tng3)), (tn_4, .inl (k 0, 10, .inl tng4)), (tn_5, .inl (k 0, 10, .inl tng5)), (tn_9, .inl (k 0, 4, .inl tng9)), (tn_10, .inl (k 0, 4, .inl tng10))] := hD
    generalize H1 = H at hP hS ⊢
    have hw_13 : (0 ≤ r_12.toInt ∧ r_12.toInt ≤ 1023) := hw
    have hw_14 := hw_13
    clear hw
    refine lv_iload_n hx hb dX3_weighLanes_43 rfl (lv_at hl 4 rfl) ?_
    refine lv_iconst (v := (-1)) hx hb dX3_weighLanes_44 (by decide) ?_
    refine lv_ixor hx hb dX3_weighLanes_45 ?_
    refine lv_topi (fun x_15 ex_15 => ?_)
    have zrp2 := z_rng p2
    refine lv_iand hx hb dX3_weighLanes_46 ?_
    refine lv_topi (fun x_16 ex_16 => ?_)
    have zrx_15 := z_rng x_15
    have zx_16 : 0 ≤ x_16.toInt ∧ x_16.toInt ≤ r_12.toInt := by rw [ex_16]; exact z_andL (by omega)
    refine lv_istore (lv' := [(9, .int x_16), (8, .int x_10), (0, .ref ob), (1, .ref tn), (2, .int p1), (3, .int p2), (4, .int p3), (5, .long p4), (7, .int 2)]) hx hb dX3_weighLanes_47 hl (by decide) rfl (fun ls hl => ?_)
    refine lv_iload hx hb dX3_weighLanes_49 (lv_at hl 0 rfl) ?_
    refine lv_iload hx hb dX3_weighLanes_51 (lv_at hl 0 rfl) ?_
    refine lv_ineg hx hb dX3_weighLanes_53 ?_
    refine lv_topi (fun x_17 ex_17 => ?_)
    refine lv_iand hx hb dX3_weighLanes_54 ?_
    refine lv_topi (fun x_18 ex_18 => ?_)
    have zrx_17 := z_rng x_17
    have zx_18 : 0 ≤ x_18.toInt ∧ x_18.toInt ≤ x_16.toInt := by rw [ex_18]; exact z_andL (by omega)
    refine lv_iconst (v := 1) hx hb dX3_weighLanes_55 (by decide) ?_
    refine lv_isub hx hb dX3_weighLanes_56 ?_
    refine lv_topi (fun x_19 ex_19 => ?_)
    have zx_19 : x_19.toInt = x_18.toInt - 1 := by rw [ex_19]; exact z_sub rfl rfl (by omega) (by omega)
    obtain ⟨hPc, hDc, hFc⟩ := sub3 hP hD hS hA (ws' := []) [] (by decide +kernel) rfl
    refine va_calli (va_runS (As := [.int x_19]) (rest := []) ⟨hx, hb, hml, hown, hts⟩ (c_J6_bitCount_0f7a4 l D k x_19 H.size) (va_cwS 1 hts (gS tw_5_158 tw_4_101 tw_1_20 tw_4_102) rfl rfl rfl hdS_J6_bitCount_0f7a4 ⟨Nat.le_of_ble_eq_true rfl, Nat.le_of_ble_eq_true rfl⟩) (cz_S hK hPc hDc hN [.int x_19]) rfl rfl hl.1 rfl (lv_room (Nat.le_of_ble_eq_true rfl)) dX3_weighLanes_57 ⟨Nat.le_of_ble_eq_true rfl, Nat.le_of_ble_eq_true rfl⟩) hS (fun q _ h => hFc q h) hFc (fun r_20 uZ tZ H1 locs ht hvm hw hB hz1 hk1 hS => ?_)
    obtain ⟨hP1, hK1, hD1⟩ := hB
    rw [ht] at hP1
    obtain ⟨hP, hD⟩ := va_join (wr := [(ob, .inr (3, [.ref oba, .ref ob_1])), (ob_1, .inl (k 2, 1000, .inr (.inl obg1))), (tn_6, .inl (k 0, 10, .inl tng6)), (oba, .inr (1, [.ref oba_0, .int o_5, .int o_6])), (oba_0, .inl (k 0, 8, .inl o_7)), (tn, .inr (10, [.int tnv0, .int tnv1, .int tnv2, .ref tn_3, .ref tn_4, .ref tn_5, .ref tn_6, .int tnv7, .int tnv8, .ref tn_9, .ref tn_10, .int tnv11, .ref tn_12, .ref tn_13, .ref tn_14, .ref tn_15, .int tnv16, .ref tn_17, .ref tn_18, .ref tnt])), (tn_3, .inl (k 0, 10, .inl tng3)), (tn_4, .inl (k 0, 10, .inl tng4)), (tn_5, .inl (k 0, 10, .inl tng5)), (tn_9, .inl (k 0, 4, .inl tng9)), (tn_10, .inl (k 0, 4, .inl tng10))]) (w1 := []) hP hD [] [0, 1, 2, 3, 4, 5, 6, 7, 8, 9, 10] rfl rfl (by decide +kernel) (by decide +kernel) hk1 hFc hP1 hD1
    clear hK1 hP1 hD1 hPc hDc hFc
    clear hk1 hz1 ht hvm
    have hP : va_P D vwCl [(ob, .inr (3, [.ref oba, .ref ob_1])), (ob_1, .inl (k 2, 1000, .inr (.inl obg1))), (tn_6, .inl (k 0, 10, .inl tng6)), (oba, .inr (1, [.ref oba_0, .int o_5, .int o_6])), (oba_0, .inl (k 0, 8, .inl o_7)), (tn, .inr (10, [.int tnv0, .int tnv1, .int tnv2, .ref tn_3, .ref tn_4, .ref tn_5, .ref tn_6, .int tnv7, .int tnv8, .ref tn_9, .ref tn_10, .int tnv11, .ref tn_12, .ref tn_13, .ref tn_14, .ref tn_15, .int tnv16, .ref tn_17, .ref tn_18, .ref tnt])), (tn_3, .inl (k 0, 10, .inl tng3)), (tn_4, .inl (k 0, 10, .inl tng4)), (tn_5, .inl (k 0, 10, .inl tng5)), (tn_9, .inl (k 0, 4, .inl tng9)), (tn_10, .inl (k 0, 4, .inl tng10))] H1 := hP
    have hD : va_D A [(ob, .inr (3, [.ref oba, .ref ob_1])), (ob_1, .inl (k 2, 1000, .inr (.inl obg1))), (tn_6, .inl (k 0, 10, .inl tng6)), (oba, .inr (1, [.ref oba_0, .int o_5, .int o_6])), (oba_0, .inl (k 0, 8, .inl o_7)), (tn, .inr (10, [.int tnv0, .int tnv1, .int tnv2, .ref tn_3, .ref tn_4, .ref tn_5, .ref tn_6, .int tnv7, .int tnv8, .ref tn_9, .ref tn_10, .int tnv11, .ref tn_12, .ref tn_13, .ref tn_14, .ref tn_15, .int tnv16, .ref tn_17, .ref tn_18, .ref tnt])), (tn_3, .inl (k 0, 10, .inl tng3)), (tn_4, .inl (k 0, 10, .inl tng4)), (tn_5, .inl (k 0, 10, .inl tng5)), (tn_9, .inl (k 0, 4, .inl tng9)), (tn_10, .inl (k 0, 4, .inl tng10))] := hD
    generalize H1 = H at hP hS ⊢
    have hw_21 : (0 ≤ r_20.toInt ∧ r_20.toInt ≤ 63) := hw
    have hw_22 := hw_21
    clear hw
    refine lv_istore (lv' := [(10, .int r_20), (9, .int x_16), (8, .int x_10), (0, .ref ob), (1, .ref tn), (2, .int p1), (3, .int p2), (4, .int p3), (5, .long p4), (7, .int 2)]) hx hb dX3_weighLanes_60 hl (by decide) rfl (fun ls hl => ?_)
    refine lv_iload hx hb dX3_weighLanes_62 (lv_at hl 1 rfl) ?_
    refine lv_if_eq (tgt := 81) hx hb dX3_weighLanes_64 (by decide) (fun h_23 => ?_) (fun h_23 => ?_)
    · skip
      have zh_23 : x_16.toInt = 0 := z_eq h_23
      refine lv_aload_n hx hb dX3_weighLanes_81 rfl (lv_at hl 3 rfl) ?_
      refine va_get (D := D) (ci := 3) (v := .ref ob_1) (C := RX3) (T := TX3) (N := 2) hx hb hts iT_X3 hown hK hP 0 rfl rfl 1 (by decide) (hts _ tw_2_164) (fun _ h9 => h9) rfl dX3_weighLanes_82 ?_
      refine lv_iload hx hb dX3_weighLanes_85 (lv_at hl 2 rfl) ?_
      refine lv_dup2_11 hx hb dX3_weighLanes_87 rfl rfl ?_
      refine va_lald hx hb hK hP 1 2 rfl rfl (z_in (by omega) (by omega)) dX3_weighLanes_88 ?_
      refine lv_topl (fun x_24 ex_24 => ?_)
      refine lv_lload hx hb dX3_weighLanes_89 (lv_at hl 8 rfl) ?_
      refine lv_ladd hx hb dX3_weighLanes_91 ?_
      refine lv_topl (fun x_25 ex_25 => ?_)
      refine va_last hx hb hK hP hD hS 1 2 rfl rfl (z_in (by omega) (by omega)) dX3_weighLanes_92 (fun H locs hP hD hS => ?_)
      obtain ⟨g_26, eg_26⟩ : ∃ z : Nat → Int64, vp_updL obg1 x_10.toNatClampNeg x_25 = z := ⟨_, rfl⟩
      have hP : va_P D vwCl [(ob, .inr (3, [.ref oba, .ref ob_1])), (ob_1, .inl (k 2, 1000, .inr (.inl (vp_updL obg1 x_10.toNatClampNeg x_25)))), (tn_6, .inl (k 0, 10, .inl tng6)), (oba, .inr (1, [.ref oba_0, .int o_5, .int o_6])), (oba_0, .inl (k 0, 8, .inl o_7)), (tn, .inr (10, [.int tnv0, .int tnv1, .int tnv2, .ref tn_3, .ref tn_4, .ref tn_5, .ref tn_6, .int tnv7, .int tnv8, .ref tn_9, .ref tn_10, .int tnv11, .ref tn_12, .ref tn_13, .ref tn_14, .ref tn_15, .int tnv16, .ref tn_17, .ref tn_18, .ref tnt])), (tn_3, .inl (k 0, 10, .inl tng3)), (tn_4, .inl (k 0, 10, .inl tng4)), (tn_5, .inl (k 0, 10, .inl tng5)), (tn_9, .inl (k 0, 4, .inl tng9)), (tn_10, .inl (k 0, 4, .inl tng10))] H := hP
      have hD : va_D A [(ob, .inr (3, [.ref oba, .ref ob_1])), (ob_1, .inl (k 2, 1000, .inr (.inl (vp_updL obg1 x_10.toNatClampNeg x_25)))), (tn_6, .inl (k 0, 10, .inl tng6)), (oba, .inr (1, [.ref oba_0, .int o_5, .int o_6])), (oba_0, .inl (k 0, 8, .inl o_7)), (tn, .inr (10, [.int tnv0, .int tnv1, .int tnv2, .ref tn_3, .ref tn_4, .ref tn_5, .ref tn_6, .int tnv7, .int tnv8, .ref tn_9, .ref tn_10, .int tnv11, .ref tn_12, .ref tn_13, .ref tn_14, .ref tn_15, .int tnv16, .ref tn_17, .ref tn_18, .ref tnt])), (tn_3, .inl (k 0, 10, .inl tng3)), (tn_4, .inl (k 0, 10, .inl tng4)), (tn_5, .inl (k 0, 10, .inl tng5)), (tn_9, .inl (k 0, 4, .inl tng9)), (tn_10, .inl (k 0, 4, .inl tng10))] := hD
      rw [eg_26] at hP hD
      obtain ⟨hP9, hD9⟩ := sub2 hP hD (ws' := [(ob, .inr (3, [.ref oba, .ref ob_1])), (oba, .inr (1, [.ref oba_0, .int o_5, .int o_6])), (oba_0, .inl (k 0, 8, .inl o_7)), (ob_1, .inl (k 2, 1000, .inr (.inl g_26))), (tn, .inr (10, [.int tnv0, .int tnv1, .int tnv2, .ref tn_3, .ref tn_4, .ref tn_5, .ref tn_6, .int tnv7, .int tnv8, .ref tn_9, .ref tn_10, .int tnv11, .ref tn_12, .ref tn_13, .ref tn_14, .ref tn_15, .int tnv16, .ref tn_17, .ref tn_18, .ref tnt])), (tn_3, .inl (k 0, 10, .inl tng3)), (tn_4, .inl (k 0, 10, .inl tng4)), (tn_5, .inl (k 0, 10, .inl tng5)), (tn_6, .inl (k 0, 10, .inl tng6)), (tn_9, .inl (k 0, 4, .inl tng9)), (tn_10, .inl (k 0, 4, .inl tng10))]) [0, 3, 4, 1, 5, 6, 7, 8, 2, 9, 10] (by decide +kernel) rfl
      exact W.vret hx hb hr (fun tZ ht hW => ⟨⟨(o_5, o_6, o_7, g_26), rfl, hw_9, by rw [ht]; exact hP9, va_K.moved hW.alike hK, hD9⟩, hS.F ht⟩) hS.2.2 dX3_weighLanes_93
    · skip
      have zh_23 : ¬ x_16.toInt = 0 := z_ne h_23
      refine lv_iload hx hb dX3_weighLanes_67 (lv_at hl 0 rfl) ?_
      refine lv_bipush (v := 10) hx hb dX3_weighLanes_69 (by decide) ?_
      refine lv_icmp_ge (tgt := 81) hx hb dX3_weighLanes_71 (by decide) (fun h_27 => ?_) (fun h_27 => ?_)
      · skip
        have zh_27 : 10 ≤ r_20.toInt := z_le h_27
        refine lv_aload_n hx hb dX3_weighLanes_81 rfl (lv_at hl 3 rfl) ?_
        refine va_get (D := D) (ci := 3) (v := .ref ob_1) (C := RX3) (T := TX3) (N := 2) hx hb hts iT_X3 hown hK hP 0 rfl rfl 1 (by decide) (hts _ tw_2_164) (fun _ h9 => h9) rfl dX3_weighLanes_82 ?_
        refine lv_iload hx hb dX3_weighLanes_85 (lv_at hl 2 rfl) ?_
        refine lv_dup2_11 hx hb dX3_weighLanes_87 rfl rfl ?_
        refine va_lald hx hb hK hP 1 2 rfl rfl (z_in (by omega) (by omega)) dX3_weighLanes_88 ?_
        refine lv_topl (fun x_28 ex_28 => ?_)
        refine lv_lload hx hb dX3_weighLanes_89 (lv_at hl 8 rfl) ?_
        refine lv_ladd hx hb dX3_weighLanes_91 ?_
        refine lv_topl (fun x_29 ex_29 => ?_)
        refine va_last hx hb hK hP hD hS 1 2 rfl rfl (z_in (by omega) (by omega)) dX3_weighLanes_92 (fun H locs hP hD hS => ?_)
        obtain ⟨g_30, eg_30⟩ : ∃ z : Nat → Int64, vp_updL obg1 x_10.toNatClampNeg x_29 = z := ⟨_, rfl⟩
        have hP : va_P D vwCl [(ob, .inr (3, [.ref oba, .ref ob_1])), (ob_1, .inl (k 2, 1000, .inr (.inl (vp_updL obg1 x_10.toNatClampNeg x_29)))), (tn_6, .inl (k 0, 10, .inl tng6)), (oba, .inr (1, [.ref oba_0, .int o_5, .int o_6])), (oba_0, .inl (k 0, 8, .inl o_7)), (tn, .inr (10, [.int tnv0, .int tnv1, .int tnv2, .ref tn_3, .ref tn_4, .ref tn_5, .ref tn_6, .int tnv7, .int tnv8, .ref tn_9, .ref tn_10, .int tnv11, .ref tn_12, .ref tn_13, .ref tn_14, .ref tn_15, .int tnv16, .ref tn_17, .ref tn_18, .ref tnt])), (tn_3, .inl (k 0, 10, .inl tng3)), (tn_4, .inl (k 0, 10, .inl tng4)), (tn_5, .inl (k 0, 10, .inl tng5)), (tn_9, .inl (k 0, 4, .inl tng9)), (tn_10, .inl (k 0, 4, .inl tng10))] H := hP
        have hD : va_D A [(ob, .inr (3, [.ref oba, .ref ob_1])), (ob_1, .inl (k 2, 1000, .inr (.inl (vp_updL obg1 x_10.toNatClampNeg x_29)))), (tn_6, .inl (k 0, 10, .inl tng6)), (oba, .inr (1, [.ref oba_0, .int o_5, .int o_6])), (oba_0, .inl (k 0, 8, .inl o_7)), (tn, .inr (10, [.int tnv0, .int tnv1, .int tnv2, .ref tn_3, .ref tn_4, .ref tn_5, .ref tn_6, .int tnv7, .int tnv8, .ref tn_9, .ref tn_10, .int tnv11, .ref tn_12, .ref tn_13, .ref tn_14, .ref tn_15, .int tnv16, .ref tn_17, .ref tn_18, .ref tnt])), (tn_3, .inl (k 0, 10, .inl tng3)), (tn_4, .inl (k 0, 10, .inl tng4)), (tn_5, .inl (k 0, 10, .inl tng5)), (tn_9, .inl (k 0, 4, .inl tng9)), (tn_10, .inl (k 0, 4, .inl tng10))] := hD
        rw [eg_30] at hP hD
        obtain ⟨hP9, hD9⟩ := sub2 hP hD (ws' := [(ob, .inr (3, [.ref oba, .ref ob_1])), (oba, .inr (1, [.ref oba_0, .int o_5, .int o_6])), (oba_0, .inl (k 0, 8, .inl o_7)), (ob_1, .inl (k 2, 1000, .inr (.inl g_30))), (tn, .inr (10, [.int tnv0, .int tnv1, .int tnv2, .ref tn_3, .ref tn_4, .ref tn_5, .ref tn_6, .int tnv7, .int tnv8, .ref tn_9, .ref tn_10, .int tnv11, .ref tn_12, .ref tn_13, .ref tn_14, .ref tn_15, .int tnv16, .ref tn_17, .ref tn_18, .ref tnt])), (tn_3, .inl (k 0, 10, .inl tng3)), (tn_4, .inl (k 0, 10, .inl tng4)), (tn_5, .inl (k 0, 10, .inl tng5)), (tn_6, .inl (k 0, 10, .inl tng6)), (tn_9, .inl (k 0, 4, .inl tng9)), (tn_10, .inl (k 0, 4, .inl tng10))]) [0, 3, 4, 1, 5, 6, 7, 8, 2, 9, 10] (by decide +kernel) rfl
        exact W.vret hx hb hr (fun tZ ht hW => ⟨⟨(o_5, o_6, o_7, g_30), rfl, hw_9, by rw [ht]; exact hP9, va_K.moved hW.alike hK, hD9⟩, hS.F ht⟩) hS.2.2 dX3_weighLanes_93
      · skip
        have zh_27 : r_20.toInt < 10 := z_nle h_27
        refine lv_iload hx hb dX3_weighLanes_74 (lv_at hl 9 rfl) ?_
        refine lv_bipush (v := 10) hx hb dX3_weighLanes_76 (by decide) ?_
        refine lv_icmp_lt (tgt := 94) hx hb dX3_weighLanes_78 (by decide) (fun _ => ?_) (fun c9 => absurd c9 (by decide))
        refine lv_iconst (v := 1) hx hb dX3_weighLanes_94 (by decide) ?_
        refine lv_iload hx hb dX3_weighLanes_95 (lv_at hl 0 rfl) ?_
        refine lv_ishl hx hb dX3_weighLanes_97 ?_
        refine lv_topi (fun x_31 ex_31 => ?_)
        have zx_31 : 1 ≤ x_31.toInt ∧ x_31.toInt ≤ 512 := by rw [ex_31]; exact z_shl1 9 512 rfl (by decide) (by omega) (by omega)
        refine lv_istore (lv' := [(11, .int x_31), (10, .int r_20), (9, .int x_16), (8, .int x_10), (0, .ref ob), (1, .ref tn), (2, .int p1), (3, .int p2), (4, .int p3), (5, .long p4), (7, .int 2)]) hx hb dX3_weighLanes_98 hl (by decide) rfl (fun ls hl => ?_)
        refine lv_lload hx hb dX3_weighLanes_100 (lv_at hl 9 rfl) ?_
        refine lv_ldc2 (v := 10) hx hb hown (hts _ tw_5_159) dX3_weighLanes_102 ?_
        refine lv_ldiv hx hb dX3_weighLanes_105 (by decide) ?_
        refine lv_topl (fun x_32 ex_32 => ?_)
        refine lv_lstore (lv' := [(12, .long x_32), (11, .int x_31), (10, .int r_20), (9, .int x_16), (8, .int x_10), (0, .ref ob), (1, .ref tn), (2, .int p1), (3, .int p2), (4, .int p3), (5, .long p4), (7, .int 2)]) hx hb dX3_weighLanes_106 hl (by decide) rfl (fun ls hl => ?_)
        refine lv_aload_n hx hb dX3_weighLanes_108 rfl (lv_at hl 5 rfl) ?_
        refine lv_aload_n hx hb dX3_weighLanes_109 rfl (lv_at hl 6 rfl) ?_
        refine lv_iload_n hx hb dX3_weighLanes_110 rfl (lv_at hl 7 rfl) ?_
        refine lv_iload_n hx hb dX3_weighLanes_111 rfl (lv_at hl 8 rfl) ?_
        refine lv_iload hx hb dX3_weighLanes_112 (lv_at hl 1 rfl) ?_
        refine lv_ior hx hb dX3_weighLanes_114 ?_
        refine lv_topi (fun x_33 ex_33 => ?_)
        refine lv_iload hx hb dX3_weighLanes_115 (lv_at hl 9 rfl) ?_
        refine lv_lload hx hb dX3_weighLanes_117 (lv_at hl 0 rfl) ?_
        refine lv_bipush (v := 10) hx hb dX3_weighLanes_119 (by decide) ?_
        refine lv_aload_n hx hb dX3_weighLanes_121 rfl (lv_at hl 6 rfl) ?_
        refine va_get (D := D) (ci := 10) (v := .ref tn_6) (C := RX10) (T := TX10) (N := 20) hx hb hts iT_X10 hown hK hP 5 rfl rfl 6 (by decide) (hts _ tw_1_98) (fun _ h9 => h9) rfl dX3_weighLanes_122 ?_
        refine lv_iload hx hb dX3_weighLanes_125 (lv_at hl 2 rfl) ?_
        refine va_iald hx hb hK hP 2 0 rfl rfl (z_in (by omega) (by omega)) dX3_weighLanes_127 ?_
        refine lv_topi (fun x_34 ex_34 => ?_)
        have zx_34r0 : 0 ≤ x_34.toInt ∧ x_34.toInt ≤ 10 := by rw [ex_34]; exact PR.ld hp_tng6_0 (by omega) (by omega) (by omega)
        refine lv_isub hx hb dX3_weighLanes_128 ?_
        refine lv_topi (fun x_35 ex_35 => ?_)
        have zx_35 : x_35.toInt = 10 - x_34.toInt := by rw [ex_35]; exact z_sub rfl rfl (by omega) (by omega)
        refine lv_i2l (v := x_35.toInt64) hx hb dX3_weighLanes_129 rfl ?_
        refine lv_lmul hx hb dX3_weighLanes_130 ?_
        refine lv_topl (fun x_36 ex_36 => ?_)
        refine lv_iload hx hb dX3_weighLanes_131 (lv_at hl 11 rfl) ?_
        refine lv_iconst (v := 1) hx hb dX3_weighLanes_133 (by decide) ?_
        refine lv_iadd hx hb dX3_weighLanes_134 ?_
        refine lv_topi (fun x_37 ex_37 => ?_)
        obtain rfl : x_37 = 3 := ex_37.trans (by decide)
        obtain ⟨hPc, hDc, hFc⟩ := sub3 hP hD hS hA (ws' := [(ob, .inr (3, [.ref oba, .ref ob_1])), (oba, .inr (1, [.ref oba_0, .int o_5, .int o_6])), (oba_0, .inl (k 0, 8, .inl o_7)), (ob_1, .inl (k 2, 1000, .inr (.inl obg1))), (tn, .inr (10, [.int tnv0, .int tnv1, .int tnv2, .ref tn_3, .ref tn_4, .ref tn_5, .ref tn_6, .int tnv7, .int tnv8, .ref tn_9, .ref tn_10, .int tnv11, .ref tn_12, .ref tn_13, .ref tn_14, .ref tn_15, .int tnv16, .ref tn_17, .ref tn_18, .ref tnt])), (tn_3, .inl (k 0, 10, .inl tng3)), (tn_4, .inl (k 0, 10, .inl tng4)), (tn_5, .inl (k 0, 10, .inl tng5)), (tn_6, .inl (k 0, 10, .inl tng6)), (tn_9, .inl (k 0, 4, .inl tng9)), (tn_10, .inl (k 0, 4, .inl tng10))]) [0, 3, 4, 1, 5, 6, 7, 8, 2, 9, 10] (by decide +kernel) rfl
        refine va_callv (va_runV (C := RX3) (As := [.ref tn, .int p1, .int x_33, .int p3, .long x_36, .int 3]) (rest := []) ⟨hx, hb, hml, hown, hts⟩ (c_X3_weighLanes_7 l D k ob tn p1 x_33 p3 x_36 oba ob_1 oba_0 o_5 o_6 o_7 obg1 tnv0 tnv1 tnv2 tn_3 tn_4 tn_5 tn_6 tnv7 tnv8 tn_9 tn_10 tnv11 tn_12 tn_13 tn_14 tn_15 tnv16 tn_17 tn_18 tnt tng3 tng4 tng5 tng6 tng9 tng10 H.size (show 0 ≤ p1.toInt ∧ p1.toInt ≤ 7 from by omega) hw_9 (show 0 ≤ tnv0.toInt ∧ tnv0.toInt ≤ 8 from by omega) (show 0 ≤ tnv2.toInt ∧ tnv2.toInt ≤ 10 from by omega) (show 0 ≤ tnv8.toInt ∧ tnv8.toInt ≤ 4 from by omega) (show 0 ≤ tnv11.toInt ∧ tnv11.toInt ≤ 6 from by omega) (show 0 ≤ tnv16.toInt ∧ tnv16.toInt ≤ 2 from by omega) hp_tng3_0 hp_tng4_0 hp_tng5_0 hp_tng6_0 hp_tng9_0 hp_tng10_0) (cwV 6 hts (gV tw_5_151 tw_5_153 tw_p_34 tw_1_12 tw_5_154) rfl rfl rfl hdV_X3_weighLanes ⟨Nat.le_of_ble_eq_true rfl, Nat.le_of_ble_eq_true rfl⟩) (cz_V hK hPc hDc hN (ci := 3) (q0 := 0) rfl rfl [.ref tn, .int p1, .int x_33, .int p3, .long x_36, .int 3]) rfl rfl hl.1 rfl (lv_room (Nat.le_of_ble_eq_true rfl)) dX3_weighLanes_135 ⟨Nat.le_of_ble_eq_true rfl, Nat.le_of_ble_eq_true rfl⟩) hS (fun q _ h => hFc q h) hFc (fun uZ tZ H1 locs ht hvm hw hB hz1 hk1 hS => ?_)
        obtain ⟨o_39, o_40, o_41, o_42⟩ := uZ
        obtain ⟨hP1, hK1, hD1⟩ := hB
        rw [ht] at hP1
        obtain ⟨hP, hD⟩ := va_join (wr := []) (w1 := [(ob, .inr (3, [.ref oba, .ref ob_1])), (oba, .inr (1, [.ref oba_0, .int o_39, .int o_40])), (oba_0, .inl (k 0, 8, .inl o_41)), (ob_1, .inl (k 2, 1000, .inr (.inl o_42))), (tn, .inr (10, [.int tnv0, .int tnv1, .int tnv2, .ref tn_3, .ref tn_4, .ref tn_5, .ref tn_6, .int tnv7, .int tnv8, .ref tn_9, .ref tn_10, .int tnv11, .ref tn_12, .ref tn_13, .ref tn_14, .ref tn_15, .int tnv16, .ref tn_17, .ref tn_18, .ref tnt])), (tn_3, .inl (k 0, 10, .inl tng3)), (tn_4, .inl (k 0, 10, .inl tng4)), (tn_5, .inl (k 0, 10, .inl tng5)), (tn_6, .inl (k 0, 10, .inl tng6)), (tn_9, .inl (k 0, 4, .inl tng9)), (tn_10, .inl (k 0, 4, .inl tng10))]) hP hD [0, 3, 4, 1, 5, 6, 7, 8, 2, 9, 10] [] rfl rfl (by decide +kernel) (by decide +kernel) hk1 hFc hP1 hD1
        clear hK1 hP1 hD1 hPc hDc hFc
        clear hk1 hz1 ht hvm
        have hP : va_P D vwCl [(ob, .inr (3, [.ref oba, .ref ob_1])), (oba, .inr (1, [.ref oba_0, .int o_39, .int o_40])), (oba_0, .inl (k 0, 8, .inl o_41)), (ob_1, .inl (k 2, 1000, .inr (.inl o_42))), (tn, .inr (10, [.int tnv0, .int tnv1, .int tnv2, .ref tn_3, .ref tn_4, .ref tn_5, .ref tn_6, .int tnv7, .int tnv8, .ref tn_9, .ref tn_10, .int tnv11, .ref tn_12, .ref tn_13, .ref tn_14, .ref tn_15, .int tnv16, .ref tn_17, .ref tn_18, .ref tnt])), (tn_3, .inl (k 0, 10, .inl tng3)), (tn_4, .inl (k 0, 10, .inl tng4)), (tn_5, .inl (k 0, 10, .inl tng5)), (tn_6, .inl (k 0, 10, .inl tng6)), (tn_9, .inl (k 0, 4, .inl tng9)), (tn_10, .inl (k 0, 4, .inl tng10))] H1 := hP
        have hD : va_D A [(ob, .inr (3, [.ref oba, .ref ob_1])), (oba, .inr (1, [.ref oba_0, .int o_39, .int o_40])), (oba_0, .inl (k 0, 8, .inl o_41)), (ob_1, .inl (k 2, 1000, .inr (.inl o_42))), (tn, .inr (10, [.int tnv0, .int tnv1, .int tnv2, .ref tn_3, .ref tn_4, .ref tn_5, .ref tn_6, .int tnv7, .int tnv8, .ref tn_9, .ref tn_10, .int tnv11, .ref tn_12, .ref tn_13, .ref tn_14, .ref tn_15, .int tnv16, .ref tn_17, .ref tn_18, .ref tnt])), (tn_3, .inl (k 0, 10, .inl tng3)), (tn_4, .inl (k 0, 10, .inl tng4)), (tn_5, .inl (k 0, 10, .inl tng5)), (tn_6, .inl (k 0, 10, .inl tng6)), (tn_9, .inl (k 0, 4, .inl tng9)), (tn_10, .inl (k 0, 4, .inl tng10))] := hD
        generalize H1 = H at hP hS ⊢
        have hw_43 : (PR 8 1 0 0 1000000 o_41) := hw
        have hw_44 := hw_43
        clear hw
        refine lv_aload_n hx hb dX3_weighLanes_138 rfl (lv_at hl 5 rfl) ?_
        refine lv_aload_n hx hb dX3_weighLanes_139 rfl (lv_at hl 6 rfl) ?_
        refine lv_iload_n hx hb dX3_weighLanes_140 rfl (lv_at hl 7 rfl) ?_
        refine lv_iload_n hx hb dX3_weighLanes_141 rfl (lv_at hl 8 rfl) ?_
        refine lv_iload hx hb dX3_weighLanes_142 (lv_at hl 1 rfl) ?_
        refine lv_ior hx hb dX3_weighLanes_144 ?_
        refine lv_topi (fun x_45 ex_45 => ?_)
        obtain rfl : x_33 = x_45 := ex_33.trans ex_45.symm
        refine lv_iload hx hb dX3_weighLanes_145 (lv_at hl 9 rfl) ?_
        refine lv_iload hx hb dX3_weighLanes_147 (lv_at hl 1 rfl) ?_
        refine lv_ior hx hb dX3_weighLanes_149 ?_
        refine lv_topi (fun x_46 ex_46 => ?_)
        have zrp3 := z_rng p3
        refine lv_lload hx hb dX3_weighLanes_150 (lv_at hl 0 rfl) ?_
        refine lv_aload_n hx hb dX3_weighLanes_152 rfl (lv_at hl 6 rfl) ?_
        refine va_get (D := D) (ci := 10) (v := .ref tn_6) (C := RX10) (T := TX10) (N := 20) hx hb hts iT_X10 hown hK hP 4 rfl rfl 6 (by decide) (hts _ tw_1_98) (fun _ h9 => h9) rfl dX3_weighLanes_153 ?_
        refine lv_iload hx hb dX3_weighLanes_156 (lv_at hl 2 rfl) ?_
        refine va_iald hx hb hK hP 8 0 rfl rfl (z_in (by omega) (by omega)) dX3_weighLanes_158 ?_
        refine lv_topi (fun x_47 ex_47 => ?_)
        obtain rfl : x_34 = x_47 := ex_34.trans ex_47.symm
        refine lv_i2l (v := x_34.toInt64) hx hb dX3_weighLanes_159 rfl ?_
        refine lv_lmul hx hb dX3_weighLanes_160 ?_
        refine lv_topl (fun x_48 ex_48 => ?_)
        refine lv_iload hx hb dX3_weighLanes_161 (lv_at hl 11 rfl) ?_
        refine lv_iconst (v := 1) hx hb dX3_weighLanes_163 (by decide) ?_
        refine lv_iadd hx hb dX3_weighLanes_164 ?_
        refine lv_topi (fun x_49 ex_49 => ?_)
        obtain rfl : x_49 = 3 := ex_49.trans (by decide)
        obtain ⟨hPc, hDc, hFc⟩ := sub3 hP hD hS hA (ws' := [(ob, .inr (3, [.ref oba, .ref ob_1])), (oba, .inr (1, [.ref oba_0, .int o_39, .int o_40])), (oba_0, .inl (k 0, 8, .inl o_41)), (ob_1, .inl (k 2, 1000, .inr (.inl o_42))), (tn, .inr (10, [.int tnv0, .int tnv1, .int tnv2, .ref tn_3, .ref tn_4, .ref tn_5, .ref tn_6, .int tnv7, .int tnv8, .ref tn_9, .ref tn_10, .int tnv11, .ref tn_12, .ref tn_13, .ref tn_14, .ref tn_15, .int tnv16, .ref tn_17, .ref tn_18, .ref tnt])), (tn_3, .inl (k 0, 10, .inl tng3)), (tn_4, .inl (k 0, 10, .inl tng4)), (tn_5, .inl (k 0, 10, .inl tng5)), (tn_6, .inl (k 0, 10, .inl tng6)), (tn_9, .inl (k 0, 4, .inl tng9)), (tn_10, .inl (k 0, 4, .inl tng10))]) [0, 1, 2, 3, 4, 5, 6, 7, 8, 9, 10] (by decide +kernel) rfl
        refine va_callv (va_runV (C := RX3) (As := [.ref tn, .int p1, .int x_33, .int x_46, .long x_48, .int 3]) (rest := []) ⟨hx, hb, hml, hown, hts⟩ (c_X3_weighLanes_7 l D k ob tn p1 x_33 x_46 x_48 oba ob_1 oba_0 o_39 o_40 o_41 o_42 tnv0 tnv1 tnv2 tn_3 tn_4 tn_5 tn_6 tnv7 tnv8 tn_9 tn_10 tnv11 tn_12 tn_13 tn_14 tn_15 tnv16 tn_17 tn_18 tnt tng3 tng4 tng5 tng6 tng9 tng10 H.size (show 0 ≤ p1.toInt ∧ p1.toInt ≤ 7 from by omega) hw_44 (show 0 ≤ tnv0.toInt ∧ tnv0.toInt ≤ 8 from by omega) (show 0 ≤ tnv2.toInt ∧ tnv2.toInt ≤ 10 from by omega) (show 0 ≤ tnv8.toInt ∧ tnv8.toInt ≤ 4 from by omega) (show 0 ≤ tnv11.toInt ∧ tnv11.toInt ≤ 6 from by omega) (show 0 ≤ tnv16.toInt ∧ tnv16.toInt ≤ 2 from by omega) hp_tng3_0 hp_tng4_0 hp_tng5_0 hp_tng6_0 hp_tng9_0 hp_tng10_0) (cwV 6 hts (gV tw_5_151 tw_5_153 tw_p_34 tw_1_12 tw_5_154) rfl rfl rfl hdV_X3_weighLanes ⟨Nat.le_of_ble_eq_true rfl, Nat.le_of_ble_eq_true rfl⟩) (cz_V hK hPc hDc hN (ci := 3) (q0 := 0) rfl rfl [.ref tn, .int p1, .int x_33, .int x_46, .long x_48, .int 3]) rfl rfl hl.1 rfl (lv_room (Nat.le_of_ble_eq_true rfl)) dX3_weighLanes_165 ⟨Nat.le_of_ble_eq_true rfl, Nat.le_of_ble_eq_true rfl⟩) hS (fun q _ h => hFc q h) hFc (fun uZ tZ H1 locs ht hvm hw hB hz1 hk1 hS => ?_)
        obtain ⟨o_51, o_52, o_53, o_54⟩ := uZ
        obtain ⟨hP1, hK1, hD1⟩ := hB
        rw [ht] at hP1
        obtain ⟨hP, hD⟩ := va_join (wr := []) (w1 := [(ob, .inr (3, [.ref oba, .ref ob_1])), (oba, .inr (1, [.ref oba_0, .int o_51, .int o_52])), (oba_0, .inl (k 0, 8, .inl o_53)), (ob_1, .inl (k 2, 1000, .inr (.inl o_54))), (tn, .inr (10, [.int tnv0, .int tnv1, .int tnv2, .ref tn_3, .ref tn_4, .ref tn_5, .ref tn_6, .int tnv7, .int tnv8, .ref tn_9, .ref tn_10, .int tnv11, .ref tn_12, .ref tn_13, .ref tn_14, .ref tn_15, .int tnv16, .ref tn_17, .ref tn_18, .ref tnt])), (tn_3, .inl (k 0, 10, .inl tng3)), (tn_4, .inl (k 0, 10, .inl tng4)), (tn_5, .inl (k 0, 10, .inl tng5)), (tn_6, .inl (k 0, 10, .inl tng6)), (tn_9, .inl (k 0, 4, .inl tng9)), (tn_10, .inl (k 0, 4, .inl tng10))]) hP hD [0, 1, 2, 3, 4, 5, 6, 7, 8, 9, 10] [] rfl rfl (by decide +kernel) (by decide +kernel) hk1 hFc hP1 hD1
        clear hK1 hP1 hD1 hPc hDc hFc
        clear hk1 hz1 ht hvm
        have hP : va_P D vwCl [(ob, .inr (3, [.ref oba, .ref ob_1])), (oba, .inr (1, [.ref oba_0, .int o_51, .int o_52])), (oba_0, .inl (k 0, 8, .inl o_53)), (ob_1, .inl (k 2, 1000, .inr (.inl o_54))), (tn, .inr (10, [.int tnv0, .int tnv1, .int tnv2, .ref tn_3, .ref tn_4, .ref tn_5, .ref tn_6, .int tnv7, .int tnv8, .ref tn_9, .ref tn_10, .int tnv11, .ref tn_12, .ref tn_13, .ref tn_14, .ref tn_15, .int tnv16, .ref tn_17, .ref tn_18, .ref tnt])), (tn_3, .inl (k 0, 10, .inl tng3)), (tn_4, .inl (k 0, 10, .inl tng4)), (tn_5, .inl (k 0, 10, .inl tng5)), (tn_6, .inl (k 0, 10, .inl tng6)), (tn_9, .inl (k 0, 4, .inl tng9)), (tn_10, .inl (k 0, 4, .inl tng10))] H1 := hP
        have hD : va_D A [(ob, .inr (3, [.ref oba, .ref ob_1])), (oba, .inr (1, [.ref oba_0, .int o_51, .int o_52])), (oba_0, .inl (k 0, 8, .inl o_53)), (ob_1, .inl (k 2, 1000, .inr (.inl o_54))), (tn, .inr (10, [.int tnv0, .int tnv1, .int tnv2, .ref tn_3, .ref tn_4, .ref tn_5, .ref tn_6, .int tnv7, .int tnv8, .ref tn_9, .ref tn_10, .int tnv11, .ref tn_12, .ref tn_13, .ref tn_14, .ref tn_15, .int tnv16, .ref tn_17, .ref tn_18, .ref tnt])), (tn_3, .inl (k 0, 10, .inl tng3)), (tn_4, .inl (k 0, 10, .inl tng4)), (tn_5, .inl (k 0, 10, .inl tng5)), (tn_6, .inl (k 0, 10, .inl tng6)), (tn_9, .inl (k 0, 4, .inl tng9)), (tn_10, .inl (k 0, 4, .inl tng10))] := hD
        generalize H1 = H at hP hS ⊢
        have hw_55 : (PR 8 1 0 0 1000000 o_53) := hw
        have hw_56 := hw_55
        clear hw
        obtain ⟨hP9, hD9⟩ := sub2 hP hD (ws' := [(ob, .inr (3, [.ref oba, .ref ob_1])), (oba, .inr (1, [.ref oba_0, .int o_51, .int o_52])), (oba_0, .inl (k 0, 8, .inl o_53)), (ob_1, .inl (k 2, 1000, .inr (.inl o_54))), (tn, .inr (10, [.int tnv0, .int tnv1, .int tnv2, .ref tn_3, .ref tn_4, .ref tn_5, .ref tn_6, .int tnv7, .int tnv8, .ref tn_9, .ref tn_10, .int tnv11, .ref tn_12, .ref tn_13, .ref tn_14, .ref tn_15, .int tnv16, .ref tn_17, .ref tn_18, .ref tnt])), (tn_3, .inl (k 0, 10, .inl tng3)), (tn_4, .inl (k 0, 10, .inl tng4)), (tn_5, .inl (k 0, 10, .inl tng5)), (tn_6, .inl (k 0, 10, .inl tng6)), (tn_9, .inl (k 0, 4, .inl tng9)), (tn_10, .inl (k 0, 4, .inl tng10))]) [0, 1, 2, 3, 4, 5, 6, 7, 8, 9, 10] (by decide +kernel) rfl
        exact W.vret hx hb hr (fun tZ ht hW => ⟨⟨(o_51, o_52, o_53, o_54), rfl, hw_56, by rw [ht]; exact hP9, va_K.moved hW.alike hK, hD9⟩, hS.F ht⟩) hS.2.2 dX3_weighLanes_168
  · skip
    have zh_11 : 1000 ≤ x_10.toInt := z_nlt h_11
    obtain ⟨hP9, hD9⟩ := sub2 hP hD (ws' := [(ob, .inr (3, [.ref oba, .ref ob_1])), (oba, .inr (1, [.ref oba_0, .int o_5, .int o_6])), (oba_0, .inl (k 0, 8, .inl o_7)), (ob_1, .inl (k 2, 1000, .inr (.inl obg1))), (tn, .inr (10, [.int tnv0, .int tnv1, .int tnv2, .ref tn_3, .ref tn_4, .ref tn_5, .ref tn_6, .int tnv7, .int tnv8, .ref tn_9, .ref tn_10, .int tnv11, .ref tn_12, .ref tn_13, .ref tn_14, .ref tn_15, .int tnv16, .ref tn_17, .ref tn_18, .ref tnt])), (tn_3, .inl (k 0, 10, .inl tng3)), (tn_4, .inl (k 0, 10, .inl tng4)), (tn_5, .inl (k 0, 10, .inl tng5)), (tn_6, .inl (k 0, 10, .inl tng6)), (tn_9, .inl (k 0, 4, .inl tng9)), (tn_10, .inl (k 0, 4, .inl tng10))]) [0, 3, 4, 1, 5, 6, 7, 8, 2, 9, 10] (by decide +kernel) rfl
    exact W.vret hx hb hr (fun tZ ht hW => ⟨⟨(o_5, o_6, o_7, obg1), rfl, hw_9, by rw [ht]; exact hP9, va_K.moved hW.alike hK, hD9⟩, hS.F ht⟩) hS.2.2 dX3_weighLanes_33
set_option maxHeartbeats 4000000 in
set_option maxRecDepth 100000 in
theorem c_X3_weighLanes_9 (l : Launch) (D : va_G) (k : Nat → ClassId) (ob : Nat) (tn : Nat) (p1 : Int32) (p2 : Int32) (p3 : Int32) (p4 : Int64) (oba : Nat) (ob_1 : Nat) (oba_0 : Nat) (obav1 : Int32) (obav2 : Int32) (obag0 : Nat → Int32) (obg1 : Nat → Int64) (tnv0 : Int32) (tnv1 : Int32) (tnv2 : Int32) (tn_3 : Nat) (tn_4 : Nat) (tn_5 : Nat) (tn_6 : Nat) (tnv7 : Int32) (tnv8 : Int32) (tn_9 : Nat) (tn_10 : Nat) (tnv11 : Int32) (tn_12 : Nat) (tn_13 : Nat) (tn_14 : Nat) (tn_15 : Nat) (tnv16 : Int32) (tn_17 : Nat) (tn_18 : Nat) (tnt : Nat) (tng3 : Nat → Int32) (tng4 : Nat → Int32) (tng5 : Nat → Int32) (tng6 : Nat → Int32) (tng9 : Nat → Int32) (tng10 : Nat → Int32) (sz : Nat) (h_p1 : 0 ≤ p1.toInt ∧ p1.toInt ≤ 7) (hp_obag0_0 : PR 8 1 0 0 1000000 obag0) (h_tnv0 : 0 ≤ tnv0.toInt ∧ tnv0.toInt ≤ 8) (h_tnv2 : 0 ≤ tnv2.toInt ∧ tnv2.toInt ≤ 10) (h_tnv8 : 0 ≤ tnv8.toInt ∧ tnv8.toInt ≤ 4) (h_tnv11 : 0 ≤ tnv11.toInt ∧ tnv11.toInt ≤ 6) (h_tnv16 : 0 ≤ tnv16.toInt ∧ tnv16.toInt ≤ 2) (hp_tng3_0 : PR 10 1 0 0 7 tng3) (hp_tng4_0 : PR 10 1 0 0 7 tng4) (hp_tng5_0 : PR 10 1 0 0 60 tng5) (hp_tng6_0 : PR 10 1 0 0 10 tng6) (hp_tng9_0 : PR 4 1 0 0 7 tng9) (hp_tng10_0 : PR 4 1 0 0 99 tng10) : Met l yX3_weighLanes (ww yX3_weighLanes cX3_weighLanes 14 none) ({ frames := 13, cells := 0, slots := 0, locals := 397 }) (Pre0 D k [(ob, .inr (3, [.ref oba, .ref ob_1])), (oba, .inr (1, [.ref oba_0, .int obav1, .int obav2])), (oba_0, .inl (k 0, 8, .inl obag0)), (ob_1, .inl (k 2, 1000, .inr (.inl obg1))), (tn, .inr (10, [.int tnv0, .int tnv1, .int tnv2, .ref tn_3, .ref tn_4, .ref tn_5, .ref tn_6, .int tnv7, .int tnv8, .ref tn_9, .ref tn_10, .int tnv11, .ref tn_12, .ref tn_13, .ref tn_14, .ref tn_15, .int tnv16, .ref tn_17, .ref tn_18, .ref tnt])), (tn_3, .inl (k 0, 10, .inl tng3)), (tn_4, .inl (k 0, 10, .inl tng4)), (tn_5, .inl (k 0, 10, .inl tng5)), (tn_6, .inl (k 0, 10, .inl tng6)), (tn_9, .inl (k 0, 4, .inl tng9)), (tn_10, .inl (k 0, 4, .inl tng10))] sz [.ref ob, .ref tn, .int p1, .int p2, .int p3, .long p4, .int 1]) (va_Qv (fun (u : Int32 × Int32 × (Nat → Int32) × (Nat → Int64)) => match u with | (obav1z, obav2z, obag0z, obg1z) => (PR 8 1 0 0 1000000 obag0z)) (fun (u : Int32 × Int32 × (Nat → Int32) × (Nat → Int64)) tZ => match u with | (obav1z, obav2z, obag0z, obg1z) => Bw D k (va_A [(ob, .inr (3, [.ref oba, .ref ob_1])), (oba, .inr (1, [.ref oba_0, .int obav1, .int obav2])), (oba_0, .inl (k 0, 8, .inl obag0)), (ob_1, .inl (k 2, 1000, .inr (.inl obg1))), (tn, .inr (10, [.int tnv0, .int tnv1, .int tnv2, .ref tn_3, .ref tn_4, .ref tn_5, .ref tn_6, .int tnv7, .int tnv8, .ref tn_9, .ref tn_10, .int tnv11, .ref tn_12, .ref tn_13, .ref tn_14, .ref tn_15, .int tnv16, .ref tn_17, .ref tn_18, .ref tnt])), (tn_3, .inl (k 0, 10, .inl tng3)), (tn_4, .inl (k 0, 10, .inl tng4)), (tn_5, .inl (k 0, 10, .inl tng5)), (tn_6, .inl (k 0, 10, .inl tng6)), (tn_9, .inl (k 0, 4, .inl tng9)), (tn_10, .inl (k 0, 4, .inl tng10))] sz) [(ob, .inr (3, [.ref oba, .ref ob_1])), (oba, .inr (1, [.ref oba_0, .int obav1z, .int obav2z])), (oba_0, .inl (k 0, 8, .inl obag0z)), (ob_1, .inl (k 2, 1000, .inr (.inl obg1z))), (tn, .inr (10, [.int tnv0, .int tnv1, .int tnv2, .ref tn_3, .ref tn_4, .ref tn_5, .ref tn_6, .int tnv7, .int tnv8, .ref tn_9, .ref tn_10, .int tnv11, .ref tn_12, .ref tn_13, .ref tn_14, .ref tn_15, .int tnv16, .ref tn_17, .ref tn_18, .ref tnt])), (tn_3, .inl (k 0, 10, .inl tng3)), (tn_4, .inl (k 0, 10, .inl tng4)), (tn_5, .inl (k 0, 10, .inl tng5)), (tn_6, .inl (k 0, 10, .inl tng6)), (tn_9, .inl (k 0, 4, .inl tng9)), (tn_10, .inl (k 0, 4, .inl tng10))] tZ) (va_A [(ob, .inr (3, [.ref oba, .ref ob_1])), (oba, .inr (1, [.ref oba_0, .int obav1, .int obav2])), (oba_0, .inl (k 0, 8, .inl obag0)), (ob_1, .inl (k 2, 1000, .inr (.inl obg1))), (tn, .inr (10, [.int tnv0, .int tnv1, .int tnv2, .ref tn_3, .ref tn_4, .ref tn_5, .ref tn_6, .int tnv7, .int tnv8, .ref tn_9, .ref tn_10, .int tnv11, .ref tn_12, .ref tn_13, .ref tn_14, .ref tn_15, .int tnv16, .ref tn_17, .ref tn_18, .ref tnt])), (tn_3, .inl (k 0, 10, .inl tng3)), (tn_4, .inl (k 0, 10, .inl tng4)), (tn_5, .inl (k 0, 10, .inl tng5)), (tn_6, .inl (k 0, 10, .inl tng6)), (tn_9, .inl (k 0, 4, .inl tng9)), (tn_10, .inl (k 0, 4, .inl tng10))] sz)) 0 0 (va_A [(ob, .inr (3, [.ref oba, .ref ob_1])), (oba, .inr (1, [.ref oba_0, .int obav1, .int obav2])), (oba_0, .inl (k 0, 8, .inl obag0)), (ob_1, .inl (k 2, 1000, .inr (.inl obg1))), (tn, .inr (10, [.int tnv0, .int tnv1, .int tnv2, .ref tn_3, .ref tn_4, .ref tn_5, .ref tn_6, .int tnv7, .int tnv8, .ref tn_9, .ref tn_10, .int tnv11, .ref tn_12, .ref tn_13, .ref tn_14, .ref tn_15, .int tnv16, .ref tn_17, .ref tn_18, .ref tnt])), (tn_3, .inl (k 0, 10, .inl tng3)), (tn_4, .inl (k 0, 10, .inl tng4)), (tn_5, .inl (k 0, 10, .inl tng5)), (tn_6, .inl (k 0, 10, .inl tng6)), (tn_9, .inl (k 0, 4, .inl tng9)), (tn_10, .inl (k 0, 4, .inl tng10))] sz) := by
  refine Met.ofW (cc := cX3_weighLanes) (maxL := 14) (ret := none) (by decide +kernel) rfl ?_
  intro p e s m args below meth c s₁ B hml hv
  obtain ⟨rfl, hsz, hP, hK, hD0, hN⟩ := hv
  have hx := B.exec
  have hb := B.bytes
  have hr := B.returns
  have hts : ∀ w ∈ TT, w.before _ s = true := fun w h => atoms_spec (ws := ww yX3_weighLanes cX3_weighLanes 14 none) B.pre w (List.mem_cons_of_mem _ h)
  have hown : s.vm.findClass RX3 = some m.cls := findClass_of_methodNamed B.named
  have hlocks := B.notSynchronized
  subst hsz
  have hD := hD0.self (sz := s.heap.size)
  generalize hAe : va_A [(ob, .inr (3, [.ref oba, .ref ob_1])), (oba, .inr (1, [.ref oba_0, .int obav1, .int obav2])), (oba_0, .inl (k 0, 8, .inl obag0)), (ob_1, .inl (k 2, 1000, .inr (.inl obg1))), (tn, .inr (10, [.int tnv0, .int tnv1, .int tnv2, .ref tn_3, .ref tn_4, .ref tn_5, .ref tn_6, .int tnv7, .int tnv8, .ref tn_9, .ref tn_10, .int tnv11, .ref tn_12, .ref tn_13, .ref tn_14, .ref tn_15, .int tnv16, .ref tn_17, .ref tn_18, .ref tnt])), (tn_3, .inl (k 0, 10, .inl tng3)), (tn_4, .inl (k 0, 10, .inl tng4)), (tn_5, .inl (k 0, 10, .inl tng5)), (tn_6, .inl (k 0, 10, .inl tng6)), (tn_9, .inl (k 0, 4, .inl tng9)), (tn_10, .inl (k 0, 4, .inl tng10))] s.heap.size = A at hD ⊢
  have hA : ∀ q : Nat, s.heap.size ≤ q → A q := fun q h => by rw [← hAe]; exact Or.inr h
  have hS : va_S A s.heap s.heap [] := va_S.rf
  have hl := lv_entry ([.ref ob, .ref tn, .int p1, .int p2, .int p3, .long p4, .int 1]) (n := 14) (Nat.le_of_ble_eq_true rfl)
  rw [lg_entry_eq]
  generalize (lg_sl ([.ref ob, .ref tn, .int p1, .int p2, .int p3, .long p4, .int 1]) ++ List.replicate (14 - (lg_sl ([.ref ob, .ref tn, .int p1, .int p2, .int p3, .long p4, .int 1])).length) Slot.unset).toArray = ls at hl ⊢
  have hl : lv_has ls 14 [(0, .ref ob), (1, .ref tn), (2, .int p1), (3, .int p2), (4, .int p3), (5, .long p4), (7, .int 1)] := hl
  refine lv_aload_n hx hb dX3_weighLanes_0 rfl (lv_at hl 0 rfl) ?_
  refine va_get (D := D) (ci := 3) (v := .ref oba) (C := RX3) (T := TX3) (N := 2) hx hb hts iT_X3 hown hK hP 0 rfl rfl 0 (by decide) (hts _ tw_2_163) (fun _ h9 => h9) rfl dX3_weighLanes_1 ?_
  refine lv_aload_n hx hb dX3_weighLanes_4 rfl (lv_at hl 1 rfl) ?_
  refine lv_aload_n hx hb dX3_weighLanes_5 rfl (lv_at hl 1 rfl) ?_
  obtain ⟨hPc, hDc, hFc⟩ := sub3 hP hD hS hA (ws' := [(tn, .inr (10, [.int tnv0, .int tnv1, .int tnv2, .ref tn_3, .ref tn_4, .ref tn_5, .ref tn_6, .int tnv7, .int tnv8, .ref tn_9, .ref tn_10, .int tnv11, .ref tn_12, .ref tn_13, .ref tn_14, .ref tn_15, .int tnv16, .ref tn_17, .ref tn_18, .ref tnt]))]) [4] (by decide +kernel) rfl
  refine va_calli (va_runV (C := RX10) (As := []) (rest := [.ref tn, .ref oba]) ⟨hx, hb, hml, hown, hts⟩ (c_X10_openLanes l D k tn tnv0 tnv1 tnv2 tn_3 tn_4 tn_5 tn_6 tnv7 tnv8 tn_9 tn_10 tnv11 tn_12 tn_13 tn_14 tn_15 tnv16 tn_17 tn_18 tnt s.heap.size (show 0 ≤ tnv0.toInt ∧ tnv0.toInt ≤ 8 from by omega) (show 0 ≤ tnv2.toInt ∧ tnv2.toInt ≤ 10 from by omega) (show 0 ≤ tnv8.toInt ∧ tnv8.toInt ≤ 4 from by omega) (show 0 ≤ tnv11.toInt ∧ tnv11.toInt ≤ 6 from by omega) (show 0 ≤ tnv16.toInt ∧ tnv16.toInt ≤ 2 from by omega)) (cwV 0 hts (gV tw_5_155 tw_3_180 tw_3_181 tw_1_3 tw_3_182) rfl rfl rfl hdV_X10_openLanes ⟨Nat.le_of_ble_eq_true rfl, Nat.le_of_ble_eq_true rfl⟩) (cz_V hK hPc hDc hN (ci := 10) (q0 := 0) rfl rfl []) rfl rfl hl.1 rfl (lv_room (Nat.le_of_ble_eq_true rfl)) dX3_weighLanes_6 ⟨Nat.le_of_ble_eq_true rfl, Nat.le_of_ble_eq_true rfl⟩) hS (fun q _ h => hFc q h) hFc (fun r_1 uZ tZ H1 locs ht hvm hw hB hz1 hk1 hS => ?_)
  obtain ⟨hP1, hK1, hD1⟩ := hB
  rw [ht] at hP1
  obtain ⟨hP, hD⟩ := va_join (wr := [(ob, .inr (3, [.ref oba, .ref ob_1])), (oba, .inr (1, [.ref oba_0, .int obav1, .int obav2])), (oba_0, .inl (k 0, 8, .inl obag0)), (ob_1, .inl (k 2, 1000, .inr (.inl obg1))), (tn_3, .inl (k 0, 10, .inl tng3)), (tn_4, .inl (k 0, 10, .inl tng4)), (tn_5, .inl (k 0, 10, .inl tng5)), (tn_6, .inl (k 0, 10, .inl tng6)), (tn_9, .inl (k 0, 4, .inl tng9)), (tn_10, .inl (k 0, 4, .inl tng10))]) (w1 := [(tn, .inr (10, [.int tnv0, .int tnv1, .int tnv2, .ref tn_3, .ref tn_4, .ref tn_5, .ref tn_6, .int tnv7, .int tnv8, .ref tn_9, .ref tn_10, .int tnv11, .ref tn_12, .ref tn_13, .ref tn_14, .ref tn_15, .int tnv16, .ref tn_17, .ref tn_18, .ref tnt]))]) hP hD [4] [0, 1, 2, 3, 5, 6, 7, 8, 9, 10] rfl rfl (by decide +kernel) (by decide +kernel) hk1 hFc hP1 hD1
  clear hK1 hP1 hD1 hPc hDc hFc
  clear hk1 hz1 ht hvm
  have hP : va_P D vwCl [(ob, .inr (3, [.ref oba, .ref ob_1])), (oba, .inr (1, [.ref oba_0, .int obav1, .int obav2])), (oba_0, .inl (k 0, 8, .inl obag0)), (ob_1, .inl (k 2, 1000, .inr (.inl obg1))), (tn_3, .inl (k 0, 10, .inl tng3)), (tn_4, .inl (k 0, 10, .inl tng4)), (tn_5, .inl (k 0, 10, .inl tng5)), (tn_6, .inl (k 0, 10, .inl tng6)), (tn_9, .inl (k 0, 4, .inl tng9)), (tn_10, .inl (k 0, 4, .inl tng10)), (tn, .inr (10, [.int tnv0, .int tnv1, .int tnv2, .ref tn_3, .ref tn_4, .ref tn_5, .ref tn_6, .int tnv7, .int tnv8, .ref tn_9, .ref tn_10, .int tnv11, .ref tn_12, .ref tn_13, .ref tn_14, .ref tn_15, .int tnv16, .ref tn_17, .ref tn_18, .ref tnt]))] H1 := hP
  have hD : va_D A [(ob, .inr (3, [.ref oba, .ref ob_1])), (oba, .inr (1, [.ref oba_0, .int obav1, .int obav2])), (oba_0, .inl (k 0, 8, .inl obag0)), (ob_1, .inl (k 2, 1000, .inr (.inl obg1))), (tn_3, .inl (k 0, 10, .inl tng3)), (tn_4, .inl (k 0, 10, .inl tng4)), (tn_5, .inl (k 0, 10, .inl tng5)), (tn_6, .inl (k 0, 10, .inl tng6)), (tn_9, .inl (k 0, 4, .inl tng9)), (tn_10, .inl (k 0, 4, .inl tng10)), (tn, .inr (10, [.int tnv0, .int tnv1, .int tnv2, .ref tn_3, .ref tn_4, .ref tn_5, .ref tn_6, .int tnv7, .int tnv8, .ref tn_9, .ref tn_10, .int tnv11, .ref tn_12, .ref tn_13, .ref tn_14, .ref tn_15, .int tnv16, .ref tn_17, .ref tn_18, .ref tnt]))] := hD
  generalize H1 = H at hP hS ⊢
  have hw_2 : (0 ≤ r_1.toInt ∧ r_1.toInt ≤ 1023) := hw
  have hw_3 := hw_2
  clear hw
  refine lv_iload hx hb dX3_weighLanes_9 (lv_at hl 4 rfl) ?_
  obtain ⟨hPc, hDc, hFc⟩ := sub3 hP hD hS hA (ws' := [(oba, .inr (1, [.ref oba_0, .int obav1, .int obav2])), (oba_0, .inl (k 0, 8, .inl obag0)), (tn, .inr (10, [.int tnv0, .int tnv1, .int tnv2, .ref tn_3, .ref tn_4, .ref tn_5, .ref tn_6, .int tnv7, .int tnv8, .ref tn_9, .ref tn_10, .int tnv11, .ref tn_12, .ref tn_13, .ref tn_14, .ref tn_15, .int tnv16, .ref tn_17, .ref tn_18, .ref tnt])), (tn_3, .inl (k 0, 10, .inl tng3)), (tn_4, .inl (k 0, 10, .inl tng4)), (tn_5, .inl (k 0, 10, .inl tng5)), (tn_9, .inl (k 0, 4, .inl tng9)), (tn_10, .inl (k 0, 4, .inl tng10))]) [1, 2, 10, 4, 5, 6, 8, 9] (by decide +kernel) rfl
  refine va_callv (va_runV (C := RX1) (As := [.ref tn, .int r_1, .int p3]) (rest := []) ⟨hx, hb, hml, hown, hts⟩ (c_X1_fall l D k oba tn r_1 p3 oba_0 obav1 obav2 obag0 tnv0 tnv1 tnv2 tn_3 tn_4 tn_5 tn_6 tnv7 tnv8 tn_9 tn_10 tnv11 tn_12 tn_13 tn_14 tn_15 tnv16 tn_17 tn_18 tnt tng3 tng4 tng5 tng9 tng10 H.size hp_obag0_0 (show 0 ≤ tnv0.toInt ∧ tnv0.toInt ≤ 8 from by omega) (show 0 ≤ tnv2.toInt ∧ tnv2.toInt ≤ 10 from by omega) (show 0 ≤ tnv8.toInt ∧ tnv8.toInt ≤ 4 from by omega) (show 0 ≤ tnv11.toInt ∧ tnv11.toInt ≤ 6 from by omega) (show 0 ≤ tnv16.toInt ∧ tnv16.toInt ≤ 2 from by omega) hp_tng3_0 hp_tng4_0 hp_tng5_0 hp_tng9_0 hp_tng10_0) (cwV 3 hts (gV tw_5_156 tw_3_184 tw_3_185 tw_1_6 tw_3_186) rfl rfl rfl hdV_X1_fall ⟨Nat.le_of_ble_eq_true rfl, Nat.le_of_ble_eq_true rfl⟩) (cz_V hK hPc hDc hN (ci := 1) (q0 := 0) rfl rfl [.ref tn, .int r_1, .int p3]) rfl rfl hl.1 rfl (lv_room (Nat.le_of_ble_eq_true rfl)) dX3_weighLanes_11 ⟨Nat.le_of_ble_eq_true rfl, Nat.le_of_ble_eq_true rfl⟩) hS (fun q _ h => hFc q h) hFc (fun uZ tZ H1 locs ht hvm hw hB hz1 hk1 hS => ?_)
  obtain ⟨o_5, o_6, o_7⟩ := uZ
  obtain ⟨hP1, hK1, hD1⟩ := hB
  rw [ht] at hP1
  obtain ⟨hP, hD⟩ := va_join (wr := [(ob, .inr (3, [.ref oba, .ref ob_1])), (ob_1, .inl (k 2, 1000, .inr (.inl obg1))), (tn_6, .inl (k 0, 10, .inl tng6))]) (w1 := [(oba, .inr (1, [.ref oba_0, .int o_5, .int o_6])), (oba_0, .inl (k 0, 8, .inl o_7)), (tn, .inr (10, [.int tnv0, .int tnv1, .int tnv2, .ref tn_3, .ref tn_4, .ref tn_5, .ref tn_6, .int tnv7, .int tnv8, .ref tn_9, .ref tn_10, .int tnv11, .ref tn_12, .ref tn_13, .ref tn_14, .ref tn_15, .int tnv16, .ref tn_17, .ref tn_18, .ref tnt])), (tn_3, .inl (k 0, 10, .inl tng3)), (tn_4, .inl (k 0, 10, .inl tng4)), (tn_5, .inl (k 0, 10, .inl tng5)), (tn_9, .inl (k 0, 4, .inl tng9)), (tn_10, .inl (k 0, 4, .inl tng10))]) hP hD [1, 2, 10, 4, 5, 6, 8, 9] [0, 3, 7] rfl rfl (by decide +kernel) (by decide +kernel) hk1 hFc hP1 hD1
  clear hK1 hP1 hD1 hPc hDc hFc
  clear hk1 hz1 ht hvm
  have hP : va_P D vwCl [(ob, .inr (3, [.ref oba, .ref ob_1])), (ob_1, .inl (k 2, 1000, .inr (.inl obg1))), (tn_6, .inl (k 0, 10, .inl tng6)), (oba, .inr (1, [.ref oba_0, .int o_5, .int o_6])), (oba_0, .inl (k 0, 8, .inl o_7)), (tn, .inr (10, [.int tnv0, .int tnv1, .int tnv2, .ref tn_3, .ref tn_4, .ref tn_5, .ref tn_6, .int tnv7, .int tnv8, .ref tn_9, .ref tn_10, .int tnv11, .ref tn_12, .ref tn_13, .ref tn_14, .ref tn_15, .int tnv16, .ref tn_17, .ref tn_18, .ref tnt])), (tn_3, .inl (k 0, 10, .inl tng3)), (tn_4, .inl (k 0, 10, .inl tng4)), (tn_5, .inl (k 0, 10, .inl tng5)), (tn_9, .inl (k 0, 4, .inl tng9)), (tn_10, .inl (k 0, 4, .inl tng10))] H1 := hP
  have hD : va_D A [(ob, .inr (3, [.ref oba, .ref ob_1])), (ob_1, .inl (k 2, 1000, .inr (.inl obg1))), (tn_6, .inl (k 0, 10, .inl tng6)), (oba, .inr (1, [.ref oba_0, .int o_5, .int o_6])), (oba_0, .inl (k 0, 8, .inl o_7)), (tn, .inr (10, [.int tnv0, .int tnv1, .int tnv2, .ref tn_3, .ref tn_4, .ref tn_5, .ref tn_6, .int tnv7, .int tnv8, .ref tn_9, .ref tn_10, .int tnv11, .ref tn_12, .ref tn_13, .ref tn_14, .ref tn_15, .int tnv16, .ref tn_17, .ref tn_18, .ref tnt])), (tn_3, .inl (k 0, 10, .inl tng3)), (tn_4, .inl (k 0, 10, .inl tng4)), (tn_5, .inl (k 0, 10, .inl tng5)), (tn_9, .inl (k 0, 4, .inl tng9)), (tn_10, .inl (k 0, 4, .inl tng10))] := hD
  generalize H1 = H at hP hS ⊢
  have hw_8 : (PR 8 1 0 0 1000000 o_7) := hw
  have hw_9 := hw_8
  clear hw
  refine lv_aload_n hx hb dX3_weighLanes_14 rfl (lv_at hl 0 rfl) ?_
  refine va_get (D := D) (ci := 3) (v := .ref oba) (C := RX3) (T := TX3) (N := 2) hx hb hts iT_X3 hown hK hP 0 rfl rfl 0 (by decide) (hts _ tw_2_163) (fun _ h9 => h9) rfl dX3_weighLanes_15 ?_
  refine va_get (D := D) (ci := 1) (v := .ref oba_0) (C := RX1) (T := TX1) (N := 3) hx hb hts iT_X1 hown hK hP 3 rfl rfl 0 (by decide) (hts _ tw_2_21) (fun _ h9 => h9) rfl dX3_weighLanes_18 ?_
  refine lv_iload_n hx hb dX3_weighLanes_21 rfl (lv_at hl 2 rfl) ?_
  refine va_iald hx hb hK hP 4 0 rfl rfl (z_in (by omega) (by omega)) dX3_weighLanes_22 ?_
  refine lv_topi (fun x_10 ex_10 => ?_)
  have zx_10r0 : 0 ≤ x_10.toInt ∧ x_10.toInt ≤ 1000000 := by rw [ex_10]; exact PR.ld hw_9 (by omega) (by omega) (by omega)
  refine lv_istore (lv' := [(8, .int x_10), (0, .ref ob), (1, .ref tn), (2, .int p1), (3, .int p2), (4, .int p3), (5, .long p4), (7, .int 1)]) hx hb dX3_weighLanes_23 hl (by decide) rfl (fun ls hl => ?_)
  refine lv_iload hx hb dX3_weighLanes_25 (lv_at hl 0 rfl) ?_
  refine lv_sipush (v := 1000) hx hb dX3_weighLanes_27 (by decide) ?_
  refine lv_icmp_lt (tgt := 34) hx hb dX3_weighLanes_30 (by decide) (fun h_11 => ?_) (fun h_11 => ?_)
  · skip
    have zh_11 : x_10.toInt < 1000 := z_lt h_11
    refine lv_aload_n hx hb dX3_weighLanes_34 rfl (lv_at hl 1 rfl) ?_
    refine va_get (D := D) (ci := 3) (v := .ref oba) (C := RX3) (T := TX3) (N := 2) hx hb hts iT_X3 hown hK hP 0 rfl rfl 0 (by decide) (hts _ tw_2_163) (fun _ h9 => h9) rfl dX3_weighLanes_35 ?_
    refine lv_aload_n hx hb dX3_weighLanes_38 rfl (lv_at hl 2 rfl) ?_
    refine lv_iload_n hx hb dX3_weighLanes_39 rfl (lv_at hl 3 rfl) ?_
    obtain ⟨hPc, hDc, hFc⟩ := sub3 hP hD hS hA (ws' := [(oba, .inr (1, [.ref oba_0, .int o_5, .int o_6])), (oba_0, .inl (k 0, 8, .inl o_7)), (tn, .inr (10, [.int tnv0, .int tnv1, .int tnv2, .ref tn_3, .ref tn_4, .ref tn_5, .ref tn_6, .int tnv7, .int tnv8, .ref tn_9, .ref tn_10, .int tnv11, .ref tn_12, .ref tn_13, .ref tn_14, .ref tn_15, .int tnv16, .ref tn_17, .ref tn_18, .ref tnt])), (tn_3, .inl (k 0, 10, .inl tng3)), (tn_4, .inl (k 0, 10, .inl tng4)), (tn_5, .inl (k 0, 10, .inl tng5)), (tn_9, .inl (k 0, 4, .inl tng9)), (tn_10, .inl (k 0, 4, .inl tng10))]) [3, 4, 5, 6, 7, 8, 9, 10] (by decide +kernel) rfl
    refine va_calli (va_runV (C := RX1) (As := [.ref tn, .int p1]) (rest := []) ⟨hx, hb, hml, hown, hts⟩ (c_X1_wayTo l D k oba tn p1 oba_0 o_5 o_6 o_7 tnv0 tnv1 tnv2 tn_3 tn_4 tn_5 tn_6 tnv7 tnv8 tn_9 tn_10 tnv11 tn_12 tn_13 tn_14 tn_15 tnv16 tn_17 tn_18 tnt tng3 tng4 tng5 tng9 tng10 H.size (show 0 ≤ p1.toInt ∧ p1.toInt ≤ 7 from by omega) hw_9 (show 0 ≤ tnv0.toInt ∧ tnv0.toInt ≤ 8 from by omega) (show 0 ≤ tnv2.toInt ∧ tnv2.toInt ≤ 10 from by omega) (show 0 ≤ tnv8.toInt ∧ tnv8.toInt ≤ 4 from by omega) (show 0 ≤ tnv11.toInt ∧ tnv11.toInt ≤ 6 from by omega) (show 0 ≤ tnv16.toInt ∧ tnv16.toInt ≤ 2 from by omega) hp_tng3_0 hp_tng4_0 hp_tng5_0 hp_tng9_0 hp_tng10_0) (cwV 2 hts (gV tw_5_157 tw_4_96 tw_4_97 tw_1_6 tw_4_98) rfl rfl rfl hdV_X1_wayTo ⟨Nat.le_of_ble_eq_true rfl, Nat.le_of_ble_eq_true rfl⟩) (cz_V hK hPc hDc hN (ci := 1) (q0 := 0) rfl rfl [.ref tn, .int p1]) rfl rfl hl.1 rfl (lv_room (Nat.le_of_ble_eq_true rfl)) dX3_weighLanes_40 ⟨Nat.le_of_ble_eq_true rfl, Nat.le_of_ble_eq_true rfl⟩) hS (fun q _ h => hFc q h) hFc (fun r_12 uZ tZ H1 locs ht hvm hw hB hz1 hk1 hS => ?_)
    obtain ⟨hP1, hK1, hD1⟩ := hB
    rw [ht] at hP1
    obtain ⟨hP, hD⟩ := va_join (wr := [(ob, .inr (3, [.ref oba, .ref ob_1])), (ob_1, .inl (k 2, 1000, .inr (.inl obg1))), (tn_6, .inl (k 0, 10, .inl tng6))]) (w1 := [(oba, .inr (1, [.ref oba_0, .int o_5, .int o_6])), (oba_0, .inl (k 0, 8, .inl o_7)), (tn, .inr (10, [.int tnv0, .int tnv1, .int tnv2, .ref tn_3, .ref tn_4, .ref tn_5, .ref tn_6, .int tnv7, .int tnv8, .ref tn_9, .ref tn_10, .int tnv11, .ref tn_12, .ref tn_13, .ref tn_14, .ref tn_15, .int tnv16, .ref tn_17, .ref tn_18, .ref tnt])), (tn_3, .inl (k 0, 10, .inl tng3)), (tn_4, .inl (k 0, 10, .inl tng4)), (tn_5, .inl (k 0, 10, .inl tng5)), (tn_9, .inl (k 0, 4, .inl tng9)), (tn_10, .inl (k 0, 4, .inl tng10))]) hP hD [3, 4, 5, 6, 7, 8, 9, 10] [0, 1, 2] rfl rfl (by decide +kernel) (by decide +kernel) hk1 hFc hP1 hD1
    clear hK1 hP1 hD1 hPc hDc hFc
    clear hk1 hz1 ht hvm
    have hP : va_P D vwCl [(ob, .inr (3, [.ref oba, .ref ob_1])), (ob_1, .inl (k 2, 1000, .inr (.inl obg1))), (tn_6, .inl (k 0, 10, .inl tng6)), (oba, .inr (1, [.ref oba_0, .int o_5, .int o_6])), (oba_0, .inl (k 0, 8, .inl o_7)), (tn, .inr (10, [.int tnv0, .int tnv1, .int tnv2, .ref tn_3, .ref tn_4, .ref tn_5, .ref tn_6, .int tnv7, .int tnv8, .ref tn_9, .ref tn_10, .int tnv11, .ref tn_12, .ref tn_13, .ref tn_14, .ref tn_15, .int tnv16, .ref tn_17, .ref tn_18, .ref tnt])), (tn_3, .inl (k 0, 10, .inl tng3)), (tn_4, .inl (k 0, 10, .inl tng4)), (tn_5, .inl (k 0, 10, .inl tng5)), (tn_9, .inl (k 0, 4, .inl tng9)), (tn_10, .inl (k 0, 4, .inl tng10))] H1 := hP
    have hD : va_D A [(ob, .inr (3, [.ref oba, .ref ob_1])), (ob_1, .inl (k 2, 1000, .inr (.inl obg1))), (tn_6, .inl (k 0, 10, .inl tng6)), (oba, .inr (1, [.ref oba_0, .int o_5, .int o_6])), (oba_0, .inl (k 0, 8, .inl o_7)), (tn, .inr (10, [.int tnv0, .int tnv1, .int tnv2, .ref tn_3, .ref tn_4, .ref tn_5, .ref tn_6, .int tnv7, .int tnv8, .ref tn_9, .ref tn_10, .int tnv11, .ref tn_12, .ref tn_13, .ref tn_14, .ref tn_15, .int tnv16, .ref tn_17, .ref tn_18, .ref tnt])), (tn_3, .inl (k 0, 10, .inl tng3)), (tn_4, .inl (k 0, 10, .inl tng4)), (tn_5, .inl (k 0, 10, .inl tng5)), (tn_9, .inl (k 0, 4, .inl tng9)), (tn_10, .inl (k 0, 4, .inl tng10))] := hD
    generalize H1 = H at hP hS ⊢
    have hw_13 : (0 ≤ r_12.toInt ∧ r_12.toInt ≤ 1023) := hw
    have hw_14 := hw_13
    clear hw
    refine lv_iload_n hx hb dX3_weighLanes_43 rfl (lv_at hl 4 rfl) ?_
    refine lv_iconst (v := (-1)) hx hb dX3_weighLanes_44 (by decide) ?_
    refine lv_ixor hx hb dX3_weighLanes_45 ?_
    refine lv_topi (fun x_15 ex_15 => ?_)
    have zrp2 := z_rng p2
    refine lv_iand hx hb dX3_weighLanes_46 ?_
    refine lv_topi (fun x_16 ex_16 => ?_)
    have zrx_15 := z_rng x_15
    have zx_16 : 0 ≤ x_16.toInt ∧ x_16.toInt ≤ r_12.toInt := by rw [ex_16]; exact z_andL (by omega)
    refine lv_istore (lv' := [(9, .int x_16), (8, .int x_10), (0, .ref ob), (1, .ref tn), (2, .int p1), (3, .int p2), (4, .int p3), (5, .long p4), (7, .int 1)]) hx hb dX3_weighLanes_47 hl (by decide) rfl (fun ls hl => ?_)
    refine lv_iload hx hb dX3_weighLanes_49 (lv_at hl 0 rfl) ?_
    refine lv_iload hx hb dX3_weighLanes_51 (lv_at hl 0 rfl) ?_
    refine lv_ineg hx hb dX3_weighLanes_53 ?_
    refine lv_topi (fun x_17 ex_17 => ?_)
    refine lv_iand hx hb dX3_weighLanes_54 ?_
    refine lv_topi (fun x_18 ex_18 => ?_)
    have zrx_17 := z_rng x_17
    have zx_18 : 0 ≤ x_18.toInt ∧ x_18.toInt ≤ x_16.toInt := by rw [ex_18]; exact z_andL (by omega)
    refine lv_iconst (v := 1) hx hb dX3_weighLanes_55 (by decide) ?_
    refine lv_isub hx hb dX3_weighLanes_56 ?_
    refine lv_topi (fun x_19 ex_19 => ?_)
    have zx_19 : x_19.toInt = x_18.toInt - 1 := by rw [ex_19]; exact z_sub rfl rfl (by omega) (by omega)
    obtain ⟨hPc, hDc, hFc⟩ := sub3 hP hD hS hA (ws' := []) [] (by decide +kernel) rfl
    refine va_calli (va_runS (As := [.int x_19]) (rest := []) ⟨hx, hb, hml, hown, hts⟩ (c_J6_bitCount_0f7a4 l D k x_19 H.size) (va_cwS 1 hts (gS tw_5_158 tw_4_101 tw_1_20 tw_4_102) rfl rfl rfl hdS_J6_bitCount_0f7a4 ⟨Nat.le_of_ble_eq_true rfl, Nat.le_of_ble_eq_true rfl⟩) (cz_S hK hPc hDc hN [.int x_19]) rfl rfl hl.1 rfl (lv_room (Nat.le_of_ble_eq_true rfl)) dX3_weighLanes_57 ⟨Nat.le_of_ble_eq_true rfl, Nat.le_of_ble_eq_true rfl⟩) hS (fun q _ h => hFc q h) hFc (fun r_20 uZ tZ H1 locs ht hvm hw hB hz1 hk1 hS => ?_)
    obtain ⟨hP1, hK1, hD1⟩ := hB
    rw [ht] at hP1
    obtain ⟨hP, hD⟩ := va_join (wr := [(ob, .inr (3, [.ref oba, .ref ob_1])), (ob_1, .inl (k 2, 1000, .inr (.inl obg1))), (tn_6, .inl (k 0, 10, .inl tng6)), (oba, .inr (1, [.ref oba_0, .int o_5, .int o_6])), (oba_0, .inl (k 0, 8, .inl o_7)), (tn, .inr (10, [.int tnv0, .int tnv1, .int tnv2, .ref tn_3, .ref tn_4, .ref tn_5, .ref tn_6, .int tnv7, .int tnv8, .ref tn_9, .ref tn_10, .int tnv11, .ref tn_12, .ref tn_13, .ref tn_14, .ref tn_15, .int tnv16, .ref tn_17, .ref tn_18, .ref tnt])), (tn_3, .inl (k 0, 10, .inl tng3)), (tn_4, .inl (k 0, 10, .inl tng4)), (tn_5, .inl (k 0, 10, .inl tng5)), (tn_9, .inl (k 0, 4, .inl tng9)), (tn_10, .inl (k 0, 4, .inl tng10))]) (w1 := []) hP hD [] [0, 1, 2, 3, 4, 5, 6, 7, 8, 9, 10] rfl rfl (by decide +kernel) (by decide +kernel) hk1 hFc hP1 hD1
    clear hK1 hP1 hD1 hPc hDc hFc
    clear hk1 hz1 ht hvm
    have hP : va_P D vwCl [(ob, .inr (3, [.ref oba, .ref ob_1])), (ob_1, .inl (k 2, 1000, .inr (.inl obg1))), (tn_6, .inl (k 0, 10, .inl tng6)), (oba, .inr (1, [.ref oba_0, .int o_5, .int o_6])), (oba_0, .inl (k 0, 8, .inl o_7)), (tn, .inr (10, [.int tnv0, .int tnv1, .int tnv2, .ref tn_3, .ref tn_4, .ref tn_5, .ref tn_6, .int tnv7, .int tnv8, .ref tn_9, .ref tn_10, .int tnv11, .ref tn_12, .ref tn_13, .ref tn_14, .ref tn_15, .int tnv16, .ref tn_17, .ref tn_18, .ref tnt])), (tn_3, .inl (k 0, 10, .inl tng3)), (tn_4, .inl (k 0, 10, .inl tng4)), (tn_5, .inl (k 0, 10, .inl tng5)), (tn_9, .inl (k 0, 4, .inl tng9)), (tn_10, .inl (k 0, 4, .inl tng10))] H1 := hP
    have hD : va_D A [(ob, .inr (3, [.ref oba, .ref ob_1])), (ob_1, .inl (k 2, 1000, .inr (.inl obg1))), (tn_6, .inl (k 0, 10, .inl tng6)), (oba, .inr (1, [.ref oba_0, .int o_5, .int o_6])), (oba_0, .inl (k 0, 8, .inl o_7)), (tn, .inr (10, [.int tnv0, .int tnv1, .int tnv2, .ref tn_3, .ref tn_4, .ref tn_5, .ref tn_6, .int tnv7, .int tnv8, .ref tn_9, .ref tn_10, .int tnv11, .ref tn_12, .ref tn_13, .ref tn_14, .ref tn_15, .int tnv16, .ref tn_17, .ref tn_18, .ref tnt])), (tn_3, .inl (k 0, 10, .inl tng3)), (tn_4, .inl (k 0, 10, .inl tng4)), (tn_5, .inl (k 0, 10, .inl tng5)), (tn_9, .inl (k 0, 4, .inl tng9)), (tn_10, .inl (k 0, 4, .inl tng10))] := hD
    generalize H1 = H at hP hS ⊢
    have hw_21 : (0 ≤ r_20.toInt ∧ r_20.toInt ≤ 63) := hw
    have hw_22 := hw_21
    clear hw
    refine lv_istore (lv' := [(10, .int r_20), (9, .int x_16), (8, .int x_10), (0, .ref ob), (1, .ref tn), (2, .int p1), (3, .int p2), (4, .int p3), (5, .long p4), (7, .int 1)]) hx hb dX3_weighLanes_60 hl (by decide) rfl (fun ls hl => ?_)
    refine lv_iload hx hb dX3_weighLanes_62 (lv_at hl 1 rfl) ?_
    refine lv_if_eq (tgt := 81) hx hb dX3_weighLanes_64 (by decide) (fun h_23 => ?_) (fun h_23 => ?_)
    · skip
      have zh_23 : x_16.toInt = 0 := z_eq h_23
      refine lv_aload_n hx hb dX3_weighLanes_81 rfl (lv_at hl 3 rfl) ?_
      refine va_get (D := D) (ci := 3) (v := .ref ob_1) (C := RX3) (T := TX3) (N := 2) hx hb hts iT_X3 hown hK hP 0 rfl rfl 1 (by decide) (hts _ tw_2_164) (fun _ h9 => h9) rfl dX3_weighLanes_82 ?_
      refine lv_iload hx hb dX3_weighLanes_85 (lv_at hl 2 rfl) ?_
      refine lv_dup2_11 hx hb dX3_weighLanes_87 rfl rfl ?_
      refine va_lald hx hb hK hP 1 2 rfl rfl (z_in (by omega) (by omega)) dX3_weighLanes_88 ?_
      refine lv_topl (fun x_24 ex_24 => ?_)
      refine lv_lload hx hb dX3_weighLanes_89 (lv_at hl 8 rfl) ?_
      refine lv_ladd hx hb dX3_weighLanes_91 ?_
      refine lv_topl (fun x_25 ex_25 => ?_)
      refine va_last hx hb hK hP hD hS 1 2 rfl rfl (z_in (by omega) (by omega)) dX3_weighLanes_92 (fun H locs hP hD hS => ?_)
      obtain ⟨g_26, eg_26⟩ : ∃ z : Nat → Int64, vp_updL obg1 x_10.toNatClampNeg x_25 = z := ⟨_, rfl⟩
      have hP : va_P D vwCl [(ob, .inr (3, [.ref oba, .ref ob_1])), (ob_1, .inl (k 2, 1000, .inr (.inl (vp_updL obg1 x_10.toNatClampNeg x_25)))), (tn_6, .inl (k 0, 10, .inl tng6)), (oba, .inr (1, [.ref oba_0, .int o_5, .int o_6])), (oba_0, .inl (k 0, 8, .inl o_7)), (tn, .inr (10, [.int tnv0, .int tnv1, .int tnv2, .ref tn_3, .ref tn_4, .ref tn_5, .ref tn_6, .int tnv7, .int tnv8, .ref tn_9, .ref tn_10, .int tnv11, .ref tn_12, .ref tn_13, .ref tn_14, .ref tn_15, .int tnv16, .ref tn_17, .ref tn_18, .ref tnt])), (tn_3, .inl (k 0, 10, .inl tng3)), (tn_4, .inl (k 0, 10, .inl tng4)), (tn_5, .inl (k 0, 10, .inl tng5)), (tn_9, .inl (k 0, 4, .inl tng9)), (tn_10, .inl (k 0, 4, .inl tng10))] H := hP
      have hD : va_D A [(ob, .inr (3, [.ref oba, .ref ob_1])), (ob_1, .inl (k 2, 1000, .inr (.inl (vp_updL obg1 x_10.toNatClampNeg x_25)))), (tn_6, .inl (k 0, 10, .inl tng6)), (oba, .inr (1, [.ref oba_0, .int o_5, .int o_6])), (oba_0, .inl (k 0, 8, .inl o_7)), (tn, .inr (10, [.int tnv0, .int tnv1, .int tnv2, .ref tn_3, .ref tn_4, .ref tn_5, .ref tn_6, .int tnv7, .int tnv8, .ref tn_9, .ref tn_10, .int tnv11, .ref tn_12, .ref tn_13, .ref tn_14, .ref tn_15, .int tnv16, .ref tn_17, .ref tn_18, .ref tnt])), (tn_3, .inl (k 0, 10, .inl tng3)), (tn_4, .inl (k 0, 10, .inl tng4)), (tn_5, .inl (k 0, 10, .inl tng5)), (tn_9, .inl (k 0, 4, .inl tng9)), (tn_10, .inl (k 0, 4, .inl tng10))] := hD
      rw [eg_26] at hP hD
      obtain ⟨hP9, hD9⟩ := sub2 hP hD (ws' := [(ob, .inr (3, [.ref oba, .ref ob_1])), (oba, .inr (1, [.ref oba_0, .int o_5, .int o_6])), (oba_0, .inl (k 0, 8, .inl o_7)), (ob_1, .inl (k 2, 1000, .inr (.inl g_26))), (tn, .inr (10, [.int tnv0, .int tnv1, .int tnv2, .ref tn_3, .ref tn_4, .ref tn_5, .ref tn_6, .int tnv7, .int tnv8, .ref tn_9, .ref tn_10, .int tnv11, .ref tn_12, .ref tn_13, .ref tn_14, .ref tn_15, .int tnv16, .ref tn_17, .ref tn_18, .ref tnt])), (tn_3, .inl (k 0, 10, .inl tng3)), (tn_4, .inl (k 0, 10, .inl tng4)), (tn_5, .inl (k 0, 10, .inl tng5)), (tn_6, .inl (k 0, 10, .inl tng6)), (tn_9, .inl (k 0, 4, .inl tng9)), (tn_10, .inl (k 0, 4, .inl tng10))]) [0, 3, 4, 1, 5, 6, 7, 8, 2, 9, 10] (by decide +kernel) rfl
      exact W.vret hx hb hr (fun tZ ht hW => ⟨⟨(o_5, o_6, o_7, g_26), rfl, hw_9, by rw [ht]; exact hP9, va_K.moved hW.alike hK, hD9⟩, hS.F ht⟩) hS.2.2 dX3_weighLanes_93
    · skip
      have zh_23 : ¬ x_16.toInt = 0 := z_ne h_23
      refine lv_iload hx hb dX3_weighLanes_67 (lv_at hl 0 rfl) ?_
      refine lv_bipush (v := 10) hx hb dX3_weighLanes_69 (by decide) ?_
      refine lv_icmp_ge (tgt := 81) hx hb dX3_weighLanes_71 (by decide) (fun h_27 => ?_) (fun h_27 => ?_)
      · skip
        have zh_27 : 10 ≤ r_20.toInt := z_le h_27
        refine lv_aload_n hx hb dX3_weighLanes_81 rfl (lv_at hl 3 rfl) ?_
        refine va_get (D := D) (ci := 3) (v := .ref ob_1) (C := RX3) (T := TX3) (N := 2) hx hb hts iT_X3 hown hK hP 0 rfl rfl 1 (by decide) (hts _ tw_2_164) (fun _ h9 => h9) rfl dX3_weighLanes_82 ?_
        refine lv_iload hx hb dX3_weighLanes_85 (lv_at hl 2 rfl) ?_
        refine lv_dup2_11 hx hb dX3_weighLanes_87 rfl rfl ?_
        refine va_lald hx hb hK hP 1 2 rfl rfl (z_in (by omega) (by omega)) dX3_weighLanes_88 ?_
        refine lv_topl (fun x_28 ex_28 => ?_)
        refine lv_lload hx hb dX3_weighLanes_89 (lv_at hl 8 rfl) ?_
        refine lv_ladd hx hb dX3_weighLanes_91 ?_
        refine lv_topl (fun x_29 ex_29 => ?_)
        refine va_last hx hb hK hP hD hS 1 2 rfl rfl (z_in (by omega) (by omega)) dX3_weighLanes_92 (fun H locs hP hD hS => ?_)
        obtain ⟨g_30, eg_30⟩ : ∃ z : Nat → Int64, vp_updL obg1 x_10.toNatClampNeg x_29 = z := ⟨_, rfl⟩
        have hP : va_P D vwCl [(ob, .inr (3, [.ref oba, .ref ob_1])), (ob_1, .inl (k 2, 1000, .inr (.inl (vp_updL obg1 x_10.toNatClampNeg x_29)))), (tn_6, .inl (k 0, 10, .inl tng6)), (oba, .inr (1, [.ref oba_0, .int o_5, .int o_6])), (oba_0, .inl (k 0, 8, .inl o_7)), (tn, .inr (10, [.int tnv0, .int tnv1, .int tnv2, .ref tn_3, .ref tn_4, .ref tn_5, .ref tn_6, .int tnv7, .int tnv8, .ref tn_9, .ref tn_10, .int tnv11, .ref tn_12, .ref tn_13, .ref tn_14, .ref tn_15, .int tnv16, .ref tn_17, .ref tn_18, .ref tnt])), (tn_3, .inl (k 0, 10, .inl tng3)), (tn_4, .inl (k 0, 10, .inl tng4)), (tn_5, .inl (k 0, 10, .inl tng5)), (tn_9, .inl (k 0, 4, .inl tng9)), (tn_10, .inl (k 0, 4, .inl tng10))] H := hP
        have hD : va_D A [(ob, .inr (3, [.ref oba, .ref ob_1])), (ob_1, .inl (k 2, 1000, .inr (.inl (vp_updL obg1 x_10.toNatClampNeg x_29)))), (tn_6, .inl (k 0, 10, .inl tng6)), (oba, .inr (1, [.ref oba_0, .int o_5, .int o_6])), (oba_0, .inl (k 0, 8, .inl o_7)), (tn, .inr (10, [.int tnv0, .int tnv1, .int tnv2, .ref tn_3, .ref tn_4, .ref tn_5, .ref tn_6, .int tnv7, .int tnv8, .ref tn_9, .ref tn_10, .int tnv11, .ref tn_12, .ref tn_13, .ref tn_14, .ref tn_15, .int tnv16, .ref tn_17, .ref tn_18, .ref tnt])), (tn_3, .inl (k 0, 10, .inl tng3)), (tn_4, .inl (k 0, 10, .inl tng4)), (tn_5, .inl (k 0, 10, .inl tng5)), (tn_9, .inl (k 0, 4, .inl tng9)), (tn_10, .inl (k 0, 4, .inl tng10))] := hD
        rw [eg_30] at hP hD
        obtain ⟨hP9, hD9⟩ := sub2 hP hD (ws' := [(ob, .inr (3, [.ref oba, .ref ob_1])), (oba, .inr (1, [.ref oba_0, .int o_5, .int o_6])), (oba_0, .inl (k 0, 8, .inl o_7)), (ob_1, .inl (k 2, 1000, .inr (.inl g_30))), (tn, .inr (10, [.int tnv0, .int tnv1, .int tnv2, .ref tn_3, .ref tn_4, .ref tn_5, .ref tn_6, .int tnv7, .int tnv8, .ref tn_9, .ref tn_10, .int tnv11, .ref tn_12, .ref tn_13, .ref tn_14, .ref tn_15, .int tnv16, .ref tn_17, .ref tn_18, .ref tnt])), (tn_3, .inl (k 0, 10, .inl tng3)), (tn_4, .inl (k 0, 10, .inl tng4)), (tn_5, .inl (k 0, 10, .inl tng5)), (tn_6, .inl (k 0, 10, .inl tng6)), (tn_9, .inl (k 0, 4, .inl tng9)), (tn_10, .inl (k 0, 4, .inl tng10))]) [0, 3, 4, 1, 5, 6, 7, 8, 2, 9, 10] (by decide +kernel) rfl
        exact W.vret hx hb hr (fun tZ ht hW => ⟨⟨(o_5, o_6, o_7, g_30), rfl, hw_9, by rw [ht]; exact hP9, va_K.moved hW.alike hK, hD9⟩, hS.F ht⟩) hS.2.2 dX3_weighLanes_93
      · skip
        have zh_27 : r_20.toInt < 10 := z_nle h_27
        refine lv_iload hx hb dX3_weighLanes_74 (lv_at hl 9 rfl) ?_
        refine lv_bipush (v := 10) hx hb dX3_weighLanes_76 (by decide) ?_
        refine lv_icmp_lt (tgt := 94) hx hb dX3_weighLanes_78 (by decide) (fun _ => ?_) (fun c9 => absurd c9 (by decide))
        refine lv_iconst (v := 1) hx hb dX3_weighLanes_94 (by decide) ?_
        refine lv_iload hx hb dX3_weighLanes_95 (lv_at hl 0 rfl) ?_
        refine lv_ishl hx hb dX3_weighLanes_97 ?_
        refine lv_topi (fun x_31 ex_31 => ?_)
        have zx_31 : 1 ≤ x_31.toInt ∧ x_31.toInt ≤ 512 := by rw [ex_31]; exact z_shl1 9 512 rfl (by decide) (by omega) (by omega)
        refine lv_istore (lv' := [(11, .int x_31), (10, .int r_20), (9, .int x_16), (8, .int x_10), (0, .ref ob), (1, .ref tn), (2, .int p1), (3, .int p2), (4, .int p3), (5, .long p4), (7, .int 1)]) hx hb dX3_weighLanes_98 hl (by decide) rfl (fun ls hl => ?_)
        refine lv_lload hx hb dX3_weighLanes_100 (lv_at hl 9 rfl) ?_
        refine lv_ldc2 (v := 10) hx hb hown (hts _ tw_5_159) dX3_weighLanes_102 ?_
        refine lv_ldiv hx hb dX3_weighLanes_105 (by decide) ?_
        refine lv_topl (fun x_32 ex_32 => ?_)
        refine lv_lstore (lv' := [(12, .long x_32), (11, .int x_31), (10, .int r_20), (9, .int x_16), (8, .int x_10), (0, .ref ob), (1, .ref tn), (2, .int p1), (3, .int p2), (4, .int p3), (5, .long p4), (7, .int 1)]) hx hb dX3_weighLanes_106 hl (by decide) rfl (fun ls hl => ?_)
        refine lv_aload_n hx hb dX3_weighLanes_108 rfl (lv_at hl 5 rfl) ?_
        refine lv_aload_n hx hb dX3_weighLanes_109 rfl (lv_at hl 6 rfl) ?_
        refine lv_iload_n hx hb dX3_weighLanes_110 rfl (lv_at hl 7 rfl) ?_
        refine lv_iload_n hx hb dX3_weighLanes_111 rfl (lv_at hl 8 rfl) ?_
        refine lv_iload hx hb dX3_weighLanes_112 (lv_at hl 1 rfl) ?_
        refine lv_ior hx hb dX3_weighLanes_114 ?_
        refine lv_topi (fun x_33 ex_33 => ?_)
        refine lv_iload hx hb dX3_weighLanes_115 (lv_at hl 9 rfl) ?_
        refine lv_lload hx hb dX3_weighLanes_117 (lv_at hl 0 rfl) ?_
        refine lv_bipush (v := 10) hx hb dX3_weighLanes_119 (by decide) ?_
        refine lv_aload_n hx hb dX3_weighLanes_121 rfl (lv_at hl 6 rfl) ?_
        refine va_get (D := D) (ci := 10) (v := .ref tn_6) (C := RX10) (T := TX10) (N := 20) hx hb hts iT_X10 hown hK hP 5 rfl rfl 6 (by decide) (hts _ tw_1_98) (fun _ h9 => h9) rfl dX3_weighLanes_122 ?_
        refine lv_iload hx hb dX3_weighLanes_125 (lv_at hl 2 rfl) ?_
        refine va_iald hx hb hK hP 2 0 rfl rfl (z_in (by omega) (by omega)) dX3_weighLanes_127 ?_
        refine lv_topi (fun x_34 ex_34 => ?_)
        have zx_34r0 : 0 ≤ x_34.toInt ∧ x_34.toInt ≤ 10 := by rw [ex_34]; exact PR.ld hp_tng6_0 (by omega) (by omega) (by omega)
        refine lv_isub hx hb dX3_weighLanes_128 ?_
        refine lv_topi (fun x_35 ex_35 => ?_)
        have zx_35 : x_35.toInt = 10 - x_34.toInt := by rw [ex_35]; exact z_sub rfl rfl (by omega) (by omega)
        refine lv_i2l (v := x_35.toInt64) hx hb dX3_weighLanes_129 rfl ?_
        refine lv_lmul hx hb dX3_weighLanes_130 ?_
        refine lv_topl (fun x_36 ex_36 => ?_)
        refine lv_iload hx hb dX3_weighLanes_131 (lv_at hl 11 rfl) ?_
        refine lv_iconst (v := 1) hx hb dX3_weighLanes_133 (by decide) ?_
        refine lv_iadd hx hb dX3_weighLanes_134 ?_
        refine lv_topi (fun x_37 ex_37 => ?_)
        obtain rfl : x_37 = 2 := ex_37.trans (by decide)
        obtain ⟨hPc, hDc, hFc⟩ := sub3 hP hD hS hA (ws' := [(ob, .inr (3, [.ref oba, .ref ob_1])), (oba, .inr (1, [.ref oba_0, .int o_5, .int o_6])), (oba_0, .inl (k 0, 8, .inl o_7)), (ob_1, .inl (k 2, 1000, .inr (.inl obg1))), (tn, .inr (10, [.int tnv0, .int tnv1, .int tnv2, .ref tn_3, .ref tn_4, .ref tn_5, .ref tn_6, .int tnv7, .int tnv8, .ref tn_9, .ref tn_10, .int tnv11, .ref tn_12, .ref tn_13, .ref tn_14, .ref tn_15, .int tnv16, .ref tn_17, .ref tn_18, .ref tnt])), (tn_3, .inl (k 0, 10, .inl tng3)), (tn_4, .inl (k 0, 10, .inl tng4)), (tn_5, .inl (k 0, 10, .inl tng5)), (tn_6, .inl (k 0, 10, .inl tng6)), (tn_9, .inl (k 0, 4, .inl tng9)), (tn_10, .inl (k 0, 4, .inl tng10))]) [0, 3, 4, 1, 5, 6, 7, 8, 2, 9, 10] (by decide +kernel) rfl
        refine va_callv (va_runV (C := RX3) (As := [.ref tn, .int p1, .int x_33, .int p3, .long x_36, .int 2]) (rest := []) ⟨hx, hb, hml, hown, hts⟩ (c_X3_weighLanes_8 l D k ob tn p1 x_33 p3 x_36 oba ob_1 oba_0 o_5 o_6 o_7 obg1 tnv0 tnv1 tnv2 tn_3 tn_4 tn_5 tn_6 tnv7 tnv8 tn_9 tn_10 tnv11 tn_12 tn_13 tn_14 tn_15 tnv16 tn_17 tn_18 tnt tng3 tng4 tng5 tng6 tng9 tng10 H.size (show 0 ≤ p1.toInt ∧ p1.toInt ≤ 7 from by omega) hw_9 (show 0 ≤ tnv0.toInt ∧ tnv0.toInt ≤ 8 from by omega) (show 0 ≤ tnv2.toInt ∧ tnv2.toInt ≤ 10 from by omega) (show 0 ≤ tnv8.toInt ∧ tnv8.toInt ≤ 4 from by omega) (show 0 ≤ tnv11.toInt ∧ tnv11.toInt ≤ 6 from by omega) (show 0 ≤ tnv16.toInt ∧ tnv16.toInt ≤ 2 from by omega) hp_tng3_0 hp_tng4_0 hp_tng5_0 hp_tng6_0 hp_tng9_0 hp_tng10_0) (cwV 6 hts (gV tw_5_151 tw_5_153 tw_p_34 tw_1_12 tw_5_154) rfl rfl rfl hdV_X3_weighLanes ⟨Nat.le_of_ble_eq_true rfl, Nat.le_of_ble_eq_true rfl⟩) (cz_V hK hPc hDc hN (ci := 3) (q0 := 0) rfl rfl [.ref tn, .int p1, .int x_33, .int p3, .long x_36, .int 2]) rfl rfl hl.1 rfl (lv_room (Nat.le_of_ble_eq_true rfl)) dX3_weighLanes_135 ⟨Nat.le_of_ble_eq_true rfl, Nat.le_of_ble_eq_true rfl⟩) hS (fun q _ h => hFc q h) hFc (fun uZ tZ H1 locs ht hvm hw hB hz1 hk1 hS => ?_)
        obtain ⟨o_39, o_40, o_41, o_42⟩ := uZ
        obtain ⟨hP1, hK1, hD1⟩ := hB
        rw [ht] at hP1
        obtain ⟨hP, hD⟩ := va_join (wr := []) (w1 := [(ob, .inr (3, [.ref oba, .ref ob_1])), (oba, .inr (1, [.ref oba_0, .int o_39, .int o_40])), (oba_0, .inl (k 0, 8, .inl o_41)), (ob_1, .inl (k 2, 1000, .inr (.inl o_42))), (tn, .inr (10, [.int tnv0, .int tnv1, .int tnv2, .ref tn_3, .ref tn_4, .ref tn_5, .ref tn_6, .int tnv7, .int tnv8, .ref tn_9, .ref tn_10, .int tnv11, .ref tn_12, .ref tn_13, .ref tn_14, .ref tn_15, .int tnv16, .ref tn_17, .ref tn_18, .ref tnt])), (tn_3, .inl (k 0, 10, .inl tng3)), (tn_4, .inl (k 0, 10, .inl tng4)), (tn_5, .inl (k 0, 10, .inl tng5)), (tn_6, .inl (k 0, 10, .inl tng6)), (tn_9, .inl (k 0, 4, .inl tng9)), (tn_10, .inl (k 0, 4, .inl tng10))]) hP hD [0, 3, 4, 1, 5, 6, 7, 8, 2, 9, 10] [] rfl rfl (by decide +kernel) (by decide +kernel) hk1 hFc hP1 hD1
        clear hK1 hP1 hD1 hPc hDc hFc
        clear hk1 hz1 ht hvm
        have hP : va_P D vwCl [(ob, .inr (3, [.ref oba, .ref ob_1])), (oba, .inr (1, [.ref oba_0, .int o_39, .int o_40])), (oba_0, .inl (k 0, 8, .inl o_41)), (ob_1, .inl (k 2, 1000, .inr (.inl o_42))), (tn, .inr (10, [.int tnv0, .int tnv1, .int tnv2, .ref tn_3, .ref tn_4, .ref tn_5, .ref tn_6, .int tnv7, .int tnv8, .ref tn_9, .ref tn_10, .int tnv11, .ref tn_12, .ref tn_13, .ref tn_14, .ref tn_15, .int tnv16, .ref tn_17, .ref tn_18, .ref tnt])), (tn_3, .inl (k 0, 10, .inl tng3)), (tn_4, .inl (k 0, 10, .inl tng4)), (tn_5, .inl (k 0, 10, .inl tng5)), (tn_6, .inl (k 0, 10, .inl tng6)), (tn_9, .inl (k 0, 4, .inl tng9)), (tn_10, .inl (k 0, 4, .inl tng10))] H1 := hP
        have hD : va_D A [(ob, .inr (3, [.ref oba, .ref ob_1])), (oba, .inr (1, [.ref oba_0, .int o_39, .int o_40])), (oba_0, .inl (k 0, 8, .inl o_41)), (ob_1, .inl (k 2, 1000, .inr (.inl o_42))), (tn, .inr (10, [.int tnv0, .int tnv1, .int tnv2, .ref tn_3, .ref tn_4, .ref tn_5, .ref tn_6, .int tnv7, .int tnv8, .ref tn_9, .ref tn_10, .int tnv11, .ref tn_12, .ref tn_13, .ref tn_14, .ref tn_15, .int tnv16, .ref tn_17, .ref tn_18, .ref tnt])), (tn_3, .inl (k 0, 10, .inl tng3)), (tn_4, .inl (k 0, 10, .inl tng4)), (tn_5, .inl (k 0, 10, .inl tng5)), (tn_6, .inl (k 0, 10, .inl tng6)), (tn_9, .inl (k 0, 4, .inl tng9)), (tn_10, .inl (k 0, 4, .inl tng10))] := hD
        generalize H1 = H at hP hS ⊢
        have hw_43 : (PR 8 1 0 0 1000000 o_41) := hw
        have hw_44 := hw_43
        clear hw
        refine lv_aload_n hx hb dX3_weighLanes_138 rfl (lv_at hl 5 rfl) ?_
        refine lv_aload_n hx hb dX3_weighLanes_139 rfl (lv_at hl 6 rfl) ?_
        refine lv_iload_n hx hb dX3_weighLanes_140 rfl (lv_at hl 7 rfl) ?_
        refine lv_iload_n hx hb dX3_weighLanes_141 rfl (lv_at hl 8 rfl) ?_
        refine lv_iload hx hb dX3_weighLanes_142 (lv_at hl 1 rfl) ?_
        refine lv_ior hx hb dX3_weighLanes_144 ?_
        refine lv_topi (fun x_45 ex_45 => ?_)
        obtain rfl : x_33 = x_45 := ex_33.trans ex_45.symm
        refine lv_iload hx hb dX3_weighLanes_145 (lv_at hl 9 rfl) ?_
        refine lv_iload hx hb dX3_weighLanes_147 (lv_at hl 1 rfl) ?_
        refine lv_ior hx hb dX3_weighLanes_149 ?_
        refine lv_topi (fun x_46 ex_46 => ?_)
        have zrp3 := z_rng p3
        refine lv_lload hx hb dX3_weighLanes_150 (lv_at hl 0 rfl) ?_
        refine lv_aload_n hx hb dX3_weighLanes_152 rfl (lv_at hl 6 rfl) ?_
        refine va_get (D := D) (ci := 10) (v := .ref tn_6) (C := RX10) (T := TX10) (N := 20) hx hb hts iT_X10 hown hK hP 4 rfl rfl 6 (by decide) (hts _ tw_1_98) (fun _ h9 => h9) rfl dX3_weighLanes_153 ?_
        refine lv_iload hx hb dX3_weighLanes_156 (lv_at hl 2 rfl) ?_
        refine va_iald hx hb hK hP 8 0 rfl rfl (z_in (by omega) (by omega)) dX3_weighLanes_158 ?_
        refine lv_topi (fun x_47 ex_47 => ?_)
        obtain rfl : x_34 = x_47 := ex_34.trans ex_47.symm
        refine lv_i2l (v := x_34.toInt64) hx hb dX3_weighLanes_159 rfl ?_
        refine lv_lmul hx hb dX3_weighLanes_160 ?_
        refine lv_topl (fun x_48 ex_48 => ?_)
        refine lv_iload hx hb dX3_weighLanes_161 (lv_at hl 11 rfl) ?_
        refine lv_iconst (v := 1) hx hb dX3_weighLanes_163 (by decide) ?_
        refine lv_iadd hx hb dX3_weighLanes_164 ?_
        refine lv_topi (fun x_49 ex_49 => ?_)
        obtain rfl : x_49 = 2 := ex_49.trans (by decide)
        obtain ⟨hPc, hDc, hFc⟩ := sub3 hP hD hS hA (ws' := [(ob, .inr (3, [.ref oba, .ref ob_1])), (oba, .inr (1, [.ref oba_0, .int o_39, .int o_40])), (oba_0, .inl (k 0, 8, .inl o_41)), (ob_1, .inl (k 2, 1000, .inr (.inl o_42))), (tn, .inr (10, [.int tnv0, .int tnv1, .int tnv2, .ref tn_3, .ref tn_4, .ref tn_5, .ref tn_6, .int tnv7, .int tnv8, .ref tn_9, .ref tn_10, .int tnv11, .ref tn_12, .ref tn_13, .ref tn_14, .ref tn_15, .int tnv16, .ref tn_17, .ref tn_18, .ref tnt])), (tn_3, .inl (k 0, 10, .inl tng3)), (tn_4, .inl (k 0, 10, .inl tng4)), (tn_5, .inl (k 0, 10, .inl tng5)), (tn_6, .inl (k 0, 10, .inl tng6)), (tn_9, .inl (k 0, 4, .inl tng9)), (tn_10, .inl (k 0, 4, .inl tng10))]) [0, 1, 2, 3, 4, 5, 6, 7, 8, 9, 10] (by decide +kernel) rfl
        refine va_callv (va_runV (C := RX3) (As := [.ref tn, .int p1, .int x_33, .int x_46, .long x_48, .int 2]) (rest := []) ⟨hx, hb, hml, hown, hts⟩ (c_X3_weighLanes_8 l D k ob tn p1 x_33 x_46 x_48 oba ob_1 oba_0 o_39 o_40 o_41 o_42 tnv0 tnv1 tnv2 tn_3 tn_4 tn_5 tn_6 tnv7 tnv8 tn_9 tn_10 tnv11 tn_12 tn_13 tn_14 tn_15 tnv16 tn_17 tn_18 tnt tng3 tng4 tng5 tng6 tng9 tng10 H.size (show 0 ≤ p1.toInt ∧ p1.toInt ≤ 7 from by omega) hw_44 (show 0 ≤ tnv0.toInt ∧ tnv0.toInt ≤ 8 from by omega) (show 0 ≤ tnv2.toInt ∧ tnv2.toInt ≤ 10 from by omega) (show 0 ≤ tnv8.toInt ∧ tnv8.toInt ≤ 4 from by omega) (show 0 ≤ tnv11.toInt ∧ tnv11.toInt ≤ 6 from by omega) (show 0 ≤ tnv16.toInt ∧ tnv16.toInt ≤ 2 from by omega) hp_tng3_0 hp_tng4_0 hp_tng5_0 hp_tng6_0 hp_tng9_0 hp_tng10_0) (cwV 6 hts (gV tw_5_151 tw_5_153 tw_p_34 tw_1_12 tw_5_154) rfl rfl rfl hdV_X3_weighLanes ⟨Nat.le_of_ble_eq_true rfl, Nat.le_of_ble_eq_true rfl⟩) (cz_V hK hPc hDc hN (ci := 3) (q0 := 0) rfl rfl [.ref tn, .int p1, .int x_33, .int x_46, .long x_48, .int 2]) rfl rfl hl.1 rfl (lv_room (Nat.le_of_ble_eq_true rfl)) dX3_weighLanes_165 ⟨Nat.le_of_ble_eq_true rfl, Nat.le_of_ble_eq_true rfl⟩) hS (fun q _ h => hFc q h) hFc (fun uZ tZ H1 locs ht hvm hw hB hz1 hk1 hS => ?_)
        obtain ⟨o_51, o_52, o_53, o_54⟩ := uZ
        obtain ⟨hP1, hK1, hD1⟩ := hB
        rw [ht] at hP1
        obtain ⟨hP, hD⟩ := va_join (wr := []) (w1 := [(ob, .inr (3, [.ref oba, .ref ob_1])), (oba, .inr (1, [.ref oba_0, .int o_51, .int o_52])), (oba_0, .inl (k 0, 8, .inl o_53)), (ob_1, .inl (k 2, 1000, .inr (.inl o_54))), (tn, .inr (10, [.int tnv0, .int tnv1, .int tnv2, .ref tn_3, .ref tn_4, .ref tn_5, .ref tn_6, .int tnv7, .int tnv8, .ref tn_9, .ref tn_10, .int tnv11, .ref tn_12, .ref tn_13, .ref tn_14, .ref tn_15, .int tnv16, .ref tn_17, .ref tn_18, .ref tnt])), (tn_3, .inl (k 0, 10, .inl tng3)), (tn_4, .inl (k 0, 10, .inl tng4)), (tn_5, .inl (k 0, 10, .inl tng5)), (tn_6, .inl (k 0, 10, .inl tng6)), (tn_9, .inl (k 0, 4, .inl tng9)), (tn_10, .inl (k 0, 4, .inl tng10))]) hP hD [0, 1, 2, 3, 4, 5, 6, 7, 8, 9, 10] [] rfl rfl (by decide +kernel) (by decide +kernel) hk1 hFc hP1 hD1
        clear hK1 hP1 hD1 hPc hDc hFc
        clear hk1 hz1 ht hvm
        have hP : va_P D vwCl [(ob, .inr (3, [.ref oba, .ref ob_1])), (oba, .inr (1, [.ref oba_0, .int o_51, .int o_52])), (oba_0, .inl (k 0, 8, .inl o_53)), (ob_1, .inl (k 2, 1000, .inr (.inl o_54))), (tn, .inr (10, [.int tnv0, .int tnv1, .int tnv2, .ref tn_3, .ref tn_4, .ref tn_5, .ref tn_6, .int tnv7, .int tnv8, .ref tn_9, .ref tn_10, .int tnv11, .ref tn_12, .ref tn_13, .ref tn_14, .ref tn_15, .int tnv16, .ref tn_17, .ref tn_18, .ref tnt])), (tn_3, .inl (k 0, 10, .inl tng3)), (tn_4, .inl (k 0, 10, .inl tng4)), (tn_5, .inl (k 0, 10, .inl tng5)), (tn_6, .inl (k 0, 10, .inl tng6)), (tn_9, .inl (k 0, 4, .inl tng9)), (tn_10, .inl (k 0, 4, .inl tng10))] H1 := hP
        have hD : va_D A [(ob, .inr (3, [.ref oba, .ref ob_1])), (oba, .inr (1, [.ref oba_0, .int o_51, .int o_52])), (oba_0, .inl (k 0, 8, .inl o_53)), (ob_1, .inl (k 2, 1000, .inr (.inl o_54))), (tn, .inr (10, [.int tnv0, .int tnv1, .int tnv2, .ref tn_3, .ref tn_4, .ref tn_5, .ref tn_6, .int tnv7, .int tnv8, .ref tn_9, .ref tn_10, .int tnv11, .ref tn_12, .ref tn_13, .ref tn_14, .ref tn_15, .int tnv16, .ref tn_17, .ref tn_18, .ref tnt])), (tn_3, .inl (k 0, 10, .inl tng3)), (tn_4, .inl (k 0, 10, .inl tng4)), (tn_5, .inl (k 0, 10, .inl tng5)), (tn_6, .inl (k 0, 10, .inl tng6)), (tn_9, .inl (k 0, 4, .inl tng9)), (tn_10, .inl (k 0, 4, .inl tng10))] := hD
        generalize H1 = H at hP hS ⊢
        have hw_55 : (PR 8 1 0 0 1000000 o_53) := hw
        have hw_56 := hw_55
        clear hw
        obtain ⟨hP9, hD9⟩ := sub2 hP hD (ws' := [(ob, .inr (3, [.ref oba, .ref ob_1])), (oba, .inr (1, [.ref oba_0, .int o_51, .int o_52])), (oba_0, .inl (k 0, 8, .inl o_53)), (ob_1, .inl (k 2, 1000, .inr (.inl o_54))), (tn, .inr (10, [.int tnv0, .int tnv1, .int tnv2, .ref tn_3, .ref tn_4, .ref tn_5, .ref tn_6, .int tnv7, .int tnv8, .ref tn_9, .ref tn_10, .int tnv11, .ref tn_12, .ref tn_13, .ref tn_14, .ref tn_15, .int tnv16, .ref tn_17, .ref tn_18, .ref tnt])), (tn_3, .inl (k 0, 10, .inl tng3)), (tn_4, .inl (k 0, 10, .inl tng4)), (tn_5, .inl (k 0, 10, .inl tng5)), (tn_6, .inl (k 0, 10, .inl tng6)), (tn_9, .inl (k 0, 4, .inl tng9)), (tn_10, .inl (k 0, 4, .inl tng10))]) [0, 1, 2, 3, 4, 5, 6, 7, 8, 9, 10] (by decide +kernel) rfl
        exact W.vret hx hb hr (fun tZ ht hW => ⟨⟨(o_51, o_52, o_53, o_54), rfl, hw_56, by rw [ht]; exact hP9, va_K.moved hW.alike hK, hD9⟩, hS.F ht⟩) hS.2.2 dX3_weighLanes_168
  · skip
    have zh_11 : 1000 ≤ x_10.toInt := z_nlt h_11
    obtain ⟨hP9, hD9⟩ := sub2 hP hD (ws' := [(ob, .inr (3, [.ref oba, .ref ob_1])), (oba, .inr (1, [.ref oba_0, .int o_5, .int o_6])), (oba_0, .inl (k 0, 8, .inl o_7)), (ob_1, .inl (k 2, 1000, .inr (.inl obg1))), (tn, .inr (10, [.int tnv0, .int tnv1, .int tnv2, .ref tn_3, .ref tn_4, .ref tn_5, .ref tn_6, .int tnv7, .int tnv8, .ref tn_9, .ref tn_10, .int tnv11, .ref tn_12, .ref tn_13, .ref tn_14, .ref tn_15, .int tnv16, .ref tn_17, .ref tn_18, .ref tnt])), (tn_3, .inl (k 0, 10, .inl tng3)), (tn_4, .inl (k 0, 10, .inl tng4)), (tn_5, .inl (k 0, 10, .inl tng5)), (tn_6, .inl (k 0, 10, .inl tng6)), (tn_9, .inl (k 0, 4, .inl tng9)), (tn_10, .inl (k 0, 4, .inl tng10))]) [0, 3, 4, 1, 5, 6, 7, 8, 2, 9, 10] (by decide +kernel) rfl
    exact W.vret hx hb hr (fun tZ ht hW => ⟨⟨(o_5, o_6, o_7, obg1), rfl, hw_9, by rw [ht]; exact hP9, va_K.moved hW.alike hK, hD9⟩, hS.F ht⟩) hS.2.2 dX3_weighLanes_33
set_option maxHeartbeats 4000000 in
set_option maxRecDepth 100000 in
theorem c_X3_weighLanes_10 (l : Launch) (D : va_G) (k : Nat → ClassId) (ob : Nat) (tn : Nat) (p1 : Int32) (p2 : Int32) (p3 : Int32) (p4 : Int64) (oba : Nat) (ob_1 : Nat) (oba_0 : Nat) (obav1 : Int32) (obav2 : Int32) (obag0 : Nat → Int32) (obg1 : Nat → Int64) (tnv0 : Int32) (tnv1 : Int32) (tnv2 : Int32) (tn_3 : Nat) (tn_4 : Nat) (tn_5 : Nat) (tn_6 : Nat) (tnv7 : Int32) (tnv8 : Int32) (tn_9 : Nat) (tn_10 : Nat) (tnv11 : Int32) (tn_12 : Nat) (tn_13 : Nat) (tn_14 : Nat) (tn_15 : Nat) (tnv16 : Int32) (tn_17 : Nat) (tn_18 : Nat) (tnt : Nat) (tng3 : Nat → Int32) (tng4 : Nat → Int32) (tng5 : Nat → Int32) (tng6 : Nat → Int32) (tng9 : Nat → Int32) (tng10 : Nat → Int32) (sz : Nat) (h_p1 : 0 ≤ p1.toInt ∧ p1.toInt ≤ 7) (hp_obag0_0 : PR 8 1 0 0 1000000 obag0) (h_tnv0 : 0 ≤ tnv0.toInt ∧ tnv0.toInt ≤ 8) (h_tnv2 : 0 ≤ tnv2.toInt ∧ tnv2.toInt ≤ 10) (h_tnv8 : 0 ≤ tnv8.toInt ∧ tnv8.toInt ≤ 4) (h_tnv11 : 0 ≤ tnv11.toInt ∧ tnv11.toInt ≤ 6) (h_tnv16 : 0 ≤ tnv16.toInt ∧ tnv16.toInt ≤ 2) (hp_tng3_0 : PR 10 1 0 0 7 tng3) (hp_tng4_0 : PR 10 1 0 0 7 tng4) (hp_tng5_0 : PR 10 1 0 0 60 tng5) (hp_tng6_0 : PR 10 1 0 0 10 tng6) (hp_tng9_0 : PR 4 1 0 0 7 tng9) (hp_tng10_0 : PR 4 1 0 0 99 tng10) : Met l yX3_weighLanes (ww yX3_weighLanes cX3_weighLanes 14 none) ({ frames := 14, cells := 0, slots := 0, locals := 430 }) (Pre0 D k [(ob, .inr (3, [.ref oba, .ref ob_1])), (oba, .inr (1, [.ref oba_0, .int obav1, .int obav2])), (oba_0, .inl (k 0, 8, .inl obag0)), (ob_1, .inl (k 2, 1000, .inr (.inl obg1))), (tn, .inr (10, [.int tnv0, .int tnv1, .int tnv2, .ref tn_3, .ref tn_4, .ref tn_5, .ref tn_6, .int tnv7, .int tnv8, .ref tn_9, .ref tn_10, .int tnv11, .ref tn_12, .ref tn_13, .ref tn_14, .ref tn_15, .int tnv16, .ref tn_17, .ref tn_18, .ref tnt])), (tn_3, .inl (k 0, 10, .inl tng3)), (tn_4, .inl (k 0, 10, .inl tng4)), (tn_5, .inl (k 0, 10, .inl tng5)), (tn_6, .inl (k 0, 10, .inl tng6)), (tn_9, .inl (k 0, 4, .inl tng9)), (tn_10, .inl (k 0, 4, .inl tng10))] sz [.ref ob, .ref tn, .int p1, .int p2, .int p3, .long p4, .int 0]) (va_Qv (fun (u : Int32 × Int32 × (Nat → Int32) × (Nat → Int64)) => match u with | (obav1z, obav2z, obag0z, obg1z) => (PR 8 1 0 0 1000000 obag0z)) (fun (u : Int32 × Int32 × (Nat → Int32) × (Nat → Int64)) tZ => match u with | (obav1z, obav2z, obag0z, obg1z) => Bw D k (va_A [(ob, .inr (3, [.ref oba, .ref ob_1])), (oba, .inr (1, [.ref oba_0, .int obav1, .int obav2])), (oba_0, .inl (k 0, 8, .inl obag0)), (ob_1, .inl (k 2, 1000, .inr (.inl obg1))), (tn, .inr (10, [.int tnv0, .int tnv1, .int tnv2, .ref tn_3, .ref tn_4, .ref tn_5, .ref tn_6, .int tnv7, .int tnv8, .ref tn_9, .ref tn_10, .int tnv11, .ref tn_12, .ref tn_13, .ref tn_14, .ref tn_15, .int tnv16, .ref tn_17, .ref tn_18, .ref tnt])), (tn_3, .inl (k 0, 10, .inl tng3)), (tn_4, .inl (k 0, 10, .inl tng4)), (tn_5, .inl (k 0, 10, .inl tng5)), (tn_6, .inl (k 0, 10, .inl tng6)), (tn_9, .inl (k 0, 4, .inl tng9)), (tn_10, .inl (k 0, 4, .inl tng10))] sz) [(ob, .inr (3, [.ref oba, .ref ob_1])), (oba, .inr (1, [.ref oba_0, .int obav1z, .int obav2z])), (oba_0, .inl (k 0, 8, .inl obag0z)), (ob_1, .inl (k 2, 1000, .inr (.inl obg1z))), (tn, .inr (10, [.int tnv0, .int tnv1, .int tnv2, .ref tn_3, .ref tn_4, .ref tn_5, .ref tn_6, .int tnv7, .int tnv8, .ref tn_9, .ref tn_10, .int tnv11, .ref tn_12, .ref tn_13, .ref tn_14, .ref tn_15, .int tnv16, .ref tn_17, .ref tn_18, .ref tnt])), (tn_3, .inl (k 0, 10, .inl tng3)), (tn_4, .inl (k 0, 10, .inl tng4)), (tn_5, .inl (k 0, 10, .inl tng5)), (tn_6, .inl (k 0, 10, .inl tng6)), (tn_9, .inl (k 0, 4, .inl tng9)), (tn_10, .inl (k 0, 4, .inl tng10))] tZ) (va_A [(ob, .inr (3, [.ref oba, .ref ob_1])), (oba, .inr (1, [.ref oba_0, .int obav1, .int obav2])), (oba_0, .inl (k 0, 8, .inl obag0)), (ob_1, .inl (k 2, 1000, .inr (.inl obg1))), (tn, .inr (10, [.int tnv0, .int tnv1, .int tnv2, .ref tn_3, .ref tn_4, .ref tn_5, .ref tn_6, .int tnv7, .int tnv8, .ref tn_9, .ref tn_10, .int tnv11, .ref tn_12, .ref tn_13, .ref tn_14, .ref tn_15, .int tnv16, .ref tn_17, .ref tn_18, .ref tnt])), (tn_3, .inl (k 0, 10, .inl tng3)), (tn_4, .inl (k 0, 10, .inl tng4)), (tn_5, .inl (k 0, 10, .inl tng5)), (tn_6, .inl (k 0, 10, .inl tng6)), (tn_9, .inl (k 0, 4, .inl tng9)), (tn_10, .inl (k 0, 4, .inl tng10))] sz)) 0 0 (va_A [(ob, .inr (3, [.ref oba, .ref ob_1])), (oba, .inr (1, [.ref oba_0, .int obav1, .int obav2])), (oba_0, .inl (k 0, 8, .inl obag0)), (ob_1, .inl (k 2, 1000, .inr (.inl obg1))), (tn, .inr (10, [.int tnv0, .int tnv1, .int tnv2, .ref tn_3, .ref tn_4, .ref tn_5, .ref tn_6, .int tnv7, .int tnv8, .ref tn_9, .ref tn_10, .int tnv11, .ref tn_12, .ref tn_13, .ref tn_14, .ref tn_15, .int tnv16, .ref tn_17, .ref tn_18, .ref tnt])), (tn_3, .inl (k 0, 10, .inl tng3)), (tn_4, .inl (k 0, 10, .inl tng4)), (tn_5, .inl (k 0, 10, .inl tng5)), (tn_6, .inl (k 0, 10, .inl tng6)), (tn_9, .inl (k 0, 4, .inl tng9)), (tn_10, .inl (k 0, 4, .inl tng10))] sz) := by
  refine Met.ofW (cc := cX3_weighLanes) (maxL := 14) (ret := none) (by decide +kernel) rfl ?_
  intro p e s m args below meth c s₁ B hml hv
  obtain ⟨rfl, hsz, hP, hK, hD0, hN⟩ := hv
  have hx := B.exec
  have hb := B.bytes
  have hr := B.returns
  have hts : ∀ w ∈ TT, w.before _ s = true := fun w h => atoms_spec (ws := ww yX3_weighLanes cX3_weighLanes 14 none) B.pre w (List.mem_cons_of_mem _ h)
  have hown : s.vm.findClass RX3 = some m.cls := findClass_of_methodNamed B.named
  have hlocks := B.notSynchronized
  subst hsz
  have hD := hD0.self (sz := s.heap.size)
  generalize hAe : va_A [(ob, .inr (3, [.ref oba, .ref ob_1])), (oba, .inr (1, [.ref oba_0, .int obav1, .int obav2])), (oba_0, .inl (k 0, 8, .inl obag0)), (ob_1, .inl (k 2, 1000, .inr (.inl obg1))), (tn, .inr (10, [.int tnv0, .int tnv1, .int tnv2, .ref tn_3, .ref tn_4, .ref tn_5, .ref tn_6, .int tnv7, .int tnv8, .ref tn_9, .ref tn_10, .int tnv11, .ref tn_12, .ref tn_13, .ref tn_14, .ref tn_15, .int tnv16, .ref tn_17, .ref tn_18, .ref tnt])), (tn_3, .inl (k 0, 10, .inl tng3)), (tn_4, .inl (k 0, 10, .inl tng4)), (tn_5, .inl (k 0, 10, .inl tng5)), (tn_6, .inl (k 0, 10, .inl tng6)), (tn_9, .inl (k 0, 4, .inl tng9)), (tn_10, .inl (k 0, 4, .inl tng10))] s.heap.size = A at hD ⊢
  have hA : ∀ q : Nat, s.heap.size ≤ q → A q := fun q h => by rw [← hAe]; exact Or.inr h
  have hS : va_S A s.heap s.heap [] := va_S.rf
  have hl := lv_entry ([.ref ob, .ref tn, .int p1, .int p2, .int p3, .long p4, .int 0]) (n := 14) (Nat.le_of_ble_eq_true rfl)
  rw [lg_entry_eq]
  generalize (lg_sl ([.ref ob, .ref tn, .int p1, .int p2, .int p3, .long p4, .int 0]) ++ List.replicate (14 - (lg_sl ([.ref ob, .ref tn, .int p1, .int p2, .int p3, .long p4, .int 0])).length) Slot.unset).toArray = ls at hl ⊢
  have hl : lv_has ls 14 [(0, .ref ob), (1, .ref tn), (2, .int p1), (3, .int p2), (4, .int p3), (5, .long p4), (7, .int 0)] := hl
  refine lv_aload_n hx hb dX3_weighLanes_0 rfl (lv_at hl 0 rfl) ?_
  refine va_get (D := D) (ci := 3) (v := .ref oba) (C := RX3) (T := TX3) (N := 2) hx hb hts iT_X3 hown hK hP 0 rfl rfl 0 (by decide) (hts _ tw_2_163) (fun _ h9 => h9) rfl dX3_weighLanes_1 ?_
  refine lv_aload_n hx hb dX3_weighLanes_4 rfl (lv_at hl 1 rfl) ?_
  refine lv_aload_n hx hb dX3_weighLanes_5 rfl (lv_at hl 1 rfl) ?_
  obtain ⟨hPc, hDc, hFc⟩ := sub3 hP hD hS hA (ws' := [(tn, .inr (10, [.int tnv0, .int tnv1, .int tnv2, .ref tn_3, .ref tn_4, .ref tn_5, .ref tn_6, .int tnv7, .int tnv8, .ref tn_9, .ref tn_10, .int tnv11, .ref tn_12, .ref tn_13, .ref tn_14, .ref tn_15, .int tnv16, .ref tn_17, .ref tn_18, .ref tnt]))]) [4] (by decide +kernel) rfl
  refine va_calli (va_runV (C := RX10) (As := []) (rest := [.ref tn, .ref oba]) ⟨hx, hb, hml, hown, hts⟩ (c_X10_openLanes l D k tn tnv0 tnv1 tnv2 tn_3 tn_4 tn_5 tn_6 tnv7 tnv8 tn_9 tn_10 tnv11 tn_12 tn_13 tn_14 tn_15 tnv16 tn_17 tn_18 tnt s.heap.size (show 0 ≤ tnv0.toInt ∧ tnv0.toInt ≤ 8 from by omega) (show 0 ≤ tnv2.toInt ∧ tnv2.toInt ≤ 10 from by omega) (show 0 ≤ tnv8.toInt ∧ tnv8.toInt ≤ 4 from by omega) (show 0 ≤ tnv11.toInt ∧ tnv11.toInt ≤ 6 from by omega) (show 0 ≤ tnv16.toInt ∧ tnv16.toInt ≤ 2 from by omega)) (cwV 0 hts (gV tw_5_155 tw_3_180 tw_3_181 tw_1_3 tw_3_182) rfl rfl rfl hdV_X10_openLanes ⟨Nat.le_of_ble_eq_true rfl, Nat.le_of_ble_eq_true rfl⟩) (cz_V hK hPc hDc hN (ci := 10) (q0 := 0) rfl rfl []) rfl rfl hl.1 rfl (lv_room (Nat.le_of_ble_eq_true rfl)) dX3_weighLanes_6 ⟨Nat.le_of_ble_eq_true rfl, Nat.le_of_ble_eq_true rfl⟩) hS (fun q _ h => hFc q h) hFc (fun r_1 uZ tZ H1 locs ht hvm hw hB hz1 hk1 hS => ?_)
  obtain ⟨hP1, hK1, hD1⟩ := hB
  rw [ht] at hP1
  obtain ⟨hP, hD⟩ := va_join (wr := [(ob, .inr (3, [.ref oba, .ref ob_1])), (oba, .inr (1, [.ref oba_0, .int obav1, .int obav2])), (oba_0, .inl (k 0, 8, .inl obag0)), (ob_1, .inl (k 2, 1000, .inr (.inl obg1))), (tn_3, .inl (k 0, 10, .inl tng3)), (tn_4, .inl (k 0, 10, .inl tng4)), (tn_5, .inl (k 0, 10, .inl tng5)), (tn_6, .inl (k 0, 10, .inl tng6)), (tn_9, .inl (k 0, 4, .inl tng9)), (tn_10, .inl (k 0, 4, .inl tng10))]) (w1 := [(tn, .inr (10, [.int tnv0, .int tnv1, .int tnv2, .ref tn_3, .ref tn_4, .ref tn_5, .ref tn_6, .int tnv7, .int tnv8, .ref tn_9, .ref tn_10, .int tnv11, .ref tn_12, .ref tn_13, .ref tn_14, .ref tn_15, .int tnv16, .ref tn_17, .ref tn_18, .ref tnt]))]) hP hD [4] [0, 1, 2, 3, 5, 6, 7, 8, 9, 10] rfl rfl (by decide +kernel) (by decide +kernel) hk1 hFc hP1 hD1
  clear hK1 hP1 hD1 hPc hDc hFc
  clear hk1 hz1 ht hvm
  have hP : va_P D vwCl [(ob, .inr (3, [.ref oba, .ref ob_1])), (oba, .inr (1, [.ref oba_0, .int obav1, .int obav2])), (oba_0, .inl (k 0, 8, .inl obag0)), (ob_1, .inl (k 2, 1000, .inr (.inl obg1))), (tn_3, .inl (k 0, 10, .inl tng3)), (tn_4, .inl (k 0, 10, .inl tng4)), (tn_5, .inl (k 0, 10, .inl tng5)), (tn_6, .inl (k 0, 10, .inl tng6)), (tn_9, .inl (k 0, 4, .inl tng9)), (tn_10, .inl (k 0, 4, .inl tng10)), (tn, .inr (10, [.int tnv0, .int tnv1, .int tnv2, .ref tn_3, .ref tn_4, .ref tn_5, .ref tn_6, .int tnv7, .int tnv8, .ref tn_9, .ref tn_10, .int tnv11, .ref tn_12, .ref tn_13, .ref tn_14, .ref tn_15, .int tnv16, .ref tn_17, .ref tn_18, .ref tnt]))] H1 := hP
  have hD : va_D A [(ob, .inr (3, [.ref oba, .ref ob_1])), (oba, .inr (1, [.ref oba_0, .int obav1, .int obav2])), (oba_0, .inl (k 0, 8, .inl obag0)), (ob_1, .inl (k 2, 1000, .inr (.inl obg1))), (tn_3, .inl (k 0, 10, .inl tng3)), (tn_4, .inl (k 0, 10, .inl tng4)), (tn_5, .inl (k 0, 10, .inl tng5)), (tn_6, .inl (k 0, 10, .inl tng6)), (tn_9, .inl (k 0, 4, .inl tng9)), (tn_10, .inl (k 0, 4, .inl tng10)), (tn, .inr (10, [.int tnv0, .int tnv1, .int tnv2, .ref tn_3, .ref tn_4, .ref tn_5, .ref tn_6, .int tnv7, .int tnv8, .ref tn_9, .ref tn_10, .int tnv11, .ref tn_12, .ref tn_13, .ref tn_14, .ref tn_15, .int tnv16, .ref tn_17, .ref tn_18, .ref tnt]))] := hD
  generalize H1 = H at hP hS ⊢
  have hw_2 : (0 ≤ r_1.toInt ∧ r_1.toInt ≤ 1023) := hw
  have hw_3 := hw_2
  clear hw
  refine lv_iload hx hb dX3_weighLanes_9 (lv_at hl 4 rfl) ?_
  obtain ⟨hPc, hDc, hFc⟩ := sub3 hP hD hS hA (ws' := [(oba, .inr (1, [.ref oba_0, .int obav1, .int obav2])), (oba_0, .inl (k 0, 8, .inl obag0)), (tn, .inr (10, [.int tnv0, .int tnv1, .int tnv2, .ref tn_3, .ref tn_4, .ref tn_5, .ref tn_6, .int tnv7, .int tnv8, .ref tn_9, .ref tn_10, .int tnv11, .ref tn_12, .ref tn_13, .ref tn_14, .ref tn_15, .int tnv16, .ref tn_17, .ref tn_18, .ref tnt])), (tn_3, .inl (k 0, 10, .inl tng3)), (tn_4, .inl (k 0, 10, .inl tng4)), (tn_5, .inl (k 0, 10, .inl tng5)), (tn_9, .inl (k 0, 4, .inl tng9)), (tn_10, .inl (k 0, 4, .inl tng10))]) [1, 2, 10, 4, 5, 6, 8, 9] (by decide +kernel) rfl
  refine va_callv (va_runV (C := RX1) (As := [.ref tn, .int r_1, .int p3]) (rest := []) ⟨hx, hb, hml, hown, hts⟩ (c_X1_fall l D k oba tn r_1 p3 oba_0 obav1 obav2 obag0 tnv0 tnv1 tnv2 tn_3 tn_4 tn_5 tn_6 tnv7 tnv8 tn_9 tn_10 tnv11 tn_12 tn_13 tn_14 tn_15 tnv16 tn_17 tn_18 tnt tng3 tng4 tng5 tng9 tng10 H.size hp_obag0_0 (show 0 ≤ tnv0.toInt ∧ tnv0.toInt ≤ 8 from by omega) (show 0 ≤ tnv2.toInt ∧ tnv2.toInt ≤ 10 from by omega) (show 0 ≤ tnv8.toInt ∧ tnv8.toInt ≤ 4 from by omega) (show 0 ≤ tnv11.toInt ∧ tnv11.toInt ≤ 6 from by omega) (show 0 ≤ tnv16.toInt ∧ tnv16.toInt ≤ 2 from by omega) hp_tng3_0 hp_tng4_0 hp_tng5_0 hp_tng9_0 hp_tng10_0) (cwV 3 hts (gV tw_5_156 tw_3_184 tw_3_185 tw_1_6 tw_3_186) rfl rfl rfl hdV_X1_fall ⟨Nat.le_of_ble_eq_true rfl, Nat.le_of_ble_eq_true rfl⟩) (cz_V hK hPc hDc hN (ci := 1) (q0 := 0) rfl rfl [.ref tn, .int r_1, .int p3]) rfl rfl hl.1 rfl (lv_room (Nat.le_of_ble_eq_true rfl)) dX3_weighLanes_11 ⟨Nat.le_of_ble_eq_true rfl, Nat.le_of_ble_eq_true rfl⟩) hS (fun q _ h => hFc q h) hFc (fun uZ tZ H1 locs ht hvm hw hB hz1 hk1 hS => ?_)
  obtain ⟨o_5, o_6, o_7⟩ := uZ
  obtain ⟨hP1, hK1, hD1⟩ := hB
  rw [ht] at hP1
  obtain ⟨hP, hD⟩ := va_join (wr := [(ob, .inr (3, [.ref oba, .ref ob_1])), (ob_1, .inl (k 2, 1000, .inr (.inl obg1))), (tn_6, .inl (k 0, 10, .inl tng6))]) (w1 := [(oba, .inr (1, [.ref oba_0, .int o_5, .int o_6])), (oba_0, .inl (k 0, 8, .inl o_7)), (tn, .inr (10, [.int tnv0, .int tnv1, .int tnv2, .ref tn_3, .ref tn_4, .ref tn_5, .ref tn_6, .int tnv7, .int tnv8, .ref tn_9, .ref tn_10, .int tnv11, .ref tn_12, .ref tn_13, .ref tn_14, .ref tn_15, .int tnv16, .ref tn_17, .ref tn_18, .ref tnt])), (tn_3, .inl (k 0, 10, .inl tng3)), (tn_4, .inl (k 0, 10, .inl tng4)), (tn_5, .inl (k 0, 10, .inl tng5)), (tn_9, .inl (k 0, 4, .inl tng9)), (tn_10, .inl (k 0, 4, .inl tng10))]) hP hD [1, 2, 10, 4, 5, 6, 8, 9] [0, 3, 7] rfl rfl (by decide +kernel) (by decide +kernel) hk1 hFc hP1 hD1
  clear hK1 hP1 hD1 hPc hDc hFc
  clear hk1 hz1 ht hvm
  have hP : va_P D vwCl [(ob, .inr (3, [.ref oba, .ref ob_1])), (ob_1, .inl (k 2, 1000, .inr (.inl obg1))), (tn_6, .inl (k 0, 10, .inl tng6)), (oba, .inr (1, [.ref oba_0, .int o_5, .int o_6])), (oba_0, .inl (k 0, 8, .inl o_7)), (tn, .inr (10, [.int tnv0, .int tnv1, .int tnv2, .ref tn_3, .ref tn_4, .ref tn_5, .ref tn_6, .int tnv7, .int tnv8, .ref tn_9, .ref tn_10, .int tnv11, .ref tn_12, .ref tn_13, .ref tn_14, .ref tn_15, .int tnv16, .ref tn_17, .ref tn_18, .ref tnt])), (tn_3, .inl (k 0, 10, .inl tng3)), (tn_4, .inl (k 0, 10, .inl tng4)), (tn_5, .inl (k 0, 10, .inl tng5)), (tn_9, .inl (k 0, 4, .inl tng9)), (tn_10, .inl (k 0, 4, .inl tng10))] H1 := hP
  have hD : va_D A [(ob, .inr (3, [.ref oba, .ref ob_1])), (ob_1, .inl (k 2, 1000, .inr (.inl obg1))), (tn_6, .inl (k 0, 10, .inl tng6)), (oba, .inr (1, [.ref oba_0, .int o_5, .int o_6])), (oba_0, .inl (k 0, 8, .inl o_7)), (tn, .inr (10, [.int tnv0, .int tnv1, .int tnv2, .ref tn_3, .ref tn_4, .ref tn_5, .ref tn_6, .int tnv7, .int tnv8, .ref tn_9, .ref tn_10, .int tnv11, .ref tn_12, .ref tn_13, .ref tn_14, .ref tn_15, .int tnv16, .ref tn_17, .ref tn_18, .ref tnt])), (tn_3, .inl (k 0, 10, .inl tng3)), (tn_4, .inl (k 0, 10, .inl tng4)), (tn_5, .inl (k 0, 10, .inl tng5)), (tn_9, .inl (k 0, 4, .inl tng9)), (tn_10, .inl (k 0, 4, .inl tng10))] := hD
  generalize H1 = H at hP hS ⊢
  have hw_8 : (PR 8 1 0 0 1000000 o_7) := hw
  have hw_9 := hw_8
  clear hw
  refine lv_aload_n hx hb dX3_weighLanes_14 rfl (lv_at hl 0 rfl) ?_
  refine va_get (D := D) (ci := 3) (v := .ref oba) (C := RX3) (T := TX3) (N := 2) hx hb hts iT_X3 hown hK hP 0 rfl rfl 0 (by decide) (hts _ tw_2_163) (fun _ h9 => h9) rfl dX3_weighLanes_15 ?_
  refine va_get (D := D) (ci := 1) (v := .ref oba_0) (C := RX1) (T := TX1) (N := 3) hx hb hts iT_X1 hown hK hP 3 rfl rfl 0 (by decide) (hts _ tw_2_21) (fun _ h9 => h9) rfl dX3_weighLanes_18 ?_
  refine lv_iload_n hx hb dX3_weighLanes_21 rfl (lv_at hl 2 rfl) ?_
  refine va_iald hx hb hK hP 4 0 rfl rfl (z_in (by omega) (by omega)) dX3_weighLanes_22 ?_
  refine lv_topi (fun x_10 ex_10 => ?_)
  have zx_10r0 : 0 ≤ x_10.toInt ∧ x_10.toInt ≤ 1000000 := by rw [ex_10]; exact PR.ld hw_9 (by omega) (by omega) (by omega)
  refine lv_istore (lv' := [(8, .int x_10), (0, .ref ob), (1, .ref tn), (2, .int p1), (3, .int p2), (4, .int p3), (5, .long p4), (7, .int 0)]) hx hb dX3_weighLanes_23 hl (by decide) rfl (fun ls hl => ?_)
  refine lv_iload hx hb dX3_weighLanes_25 (lv_at hl 0 rfl) ?_
  refine lv_sipush (v := 1000) hx hb dX3_weighLanes_27 (by decide) ?_
  refine lv_icmp_lt (tgt := 34) hx hb dX3_weighLanes_30 (by decide) (fun h_11 => ?_) (fun h_11 => ?_)
  · skip
    have zh_11 : x_10.toInt < 1000 := z_lt h_11
    refine lv_aload_n hx hb dX3_weighLanes_34 rfl (lv_at hl 1 rfl) ?_
    refine va_get (D := D) (ci := 3) (v := .ref oba) (C := RX3) (T := TX3) (N := 2) hx hb hts iT_X3 hown hK hP 0 rfl rfl 0 (by decide) (hts _ tw_2_163) (fun _ h9 => h9) rfl dX3_weighLanes_35 ?_
    refine lv_aload_n hx hb dX3_weighLanes_38 rfl (lv_at hl 2 rfl) ?_
    refine lv_iload_n hx hb dX3_weighLanes_39 rfl (lv_at hl 3 rfl) ?_
    obtain ⟨hPc, hDc, hFc⟩ := sub3 hP hD hS hA (ws' := [(oba, .inr (1, [.ref oba_0, .int o_5, .int o_6])), (oba_0, .inl (k 0, 8, .inl o_7)), (tn, .inr (10, [.int tnv0, .int tnv1, .int tnv2, .ref tn_3, .ref tn_4, .ref tn_5, .ref tn_6, .int tnv7, .int tnv8, .ref tn_9, .ref tn_10, .int tnv11, .ref tn_12, .ref tn_13, .ref tn_14, .ref tn_15, .int tnv16, .ref tn_17, .ref tn_18, .ref tnt])), (tn_3, .inl (k 0, 10, .inl tng3)), (tn_4, .inl (k 0, 10, .inl tng4)), (tn_5, .inl (k 0, 10, .inl tng5)), (tn_9, .inl (k 0, 4, .inl tng9)), (tn_10, .inl (k 0, 4, .inl tng10))]) [3, 4, 5, 6, 7, 8, 9, 10] (by decide +kernel) rfl
    refine va_calli (va_runV (C := RX1) (As := [.ref tn, .int p1]) (rest := []) ⟨hx, hb, hml, hown, hts⟩ (c_X1_wayTo l D k oba tn p1 oba_0 o_5 o_6 o_7 tnv0 tnv1 tnv2 tn_3 tn_4 tn_5 tn_6 tnv7 tnv8 tn_9 tn_10 tnv11 tn_12 tn_13 tn_14 tn_15 tnv16 tn_17 tn_18 tnt tng3 tng4 tng5 tng9 tng10 H.size (show 0 ≤ p1.toInt ∧ p1.toInt ≤ 7 from by omega) hw_9 (show 0 ≤ tnv0.toInt ∧ tnv0.toInt ≤ 8 from by omega) (show 0 ≤ tnv2.toInt ∧ tnv2.toInt ≤ 10 from by omega) (show 0 ≤ tnv8.toInt ∧ tnv8.toInt ≤ 4 from by omega) (show 0 ≤ tnv11.toInt ∧ tnv11.toInt ≤ 6 from by omega) (show 0 ≤ tnv16.toInt ∧ tnv16.toInt ≤ 2 from by omega) hp_tng3_0 hp_tng4_0 hp_tng5_0 hp_tng9_0 hp_tng10_0) (cwV 2 hts (gV tw_5_157 tw_4_96 tw_4_97 tw_1_6 tw_4_98) rfl rfl rfl hdV_X1_wayTo ⟨Nat.le_of_ble_eq_true rfl, Nat.le_of_ble_eq_true rfl⟩) (cz_V hK hPc hDc hN (ci := 1) (q0 := 0) rfl rfl [.ref tn, .int p1]) rfl rfl hl.1 rfl (lv_room (Nat.le_of_ble_eq_true rfl)) dX3_weighLanes_40 ⟨Nat.le_of_ble_eq_true rfl, Nat.le_of_ble_eq_true rfl⟩) hS (fun q _ h => hFc q h) hFc (fun r_12 uZ tZ H1 locs ht hvm hw hB hz1 hk1 hS => ?_)
    obtain ⟨hP1, hK1, hD1⟩ := hB
    rw [ht] at hP1
    obtain ⟨hP, hD⟩ := va_join (wr := [(ob, .inr (3, [.ref oba, .ref ob_1])), (ob_1, .inl (k 2, 1000, .inr (.inl obg1))), (tn_6, .inl (k 0, 10, .inl tng6))]) (w1 := [(oba, .inr (1, [.ref oba_0, .int o_5, .int o_6])), (oba_0, .inl (k 0, 8, .inl o_7)), (tn, .inr (10, [.int tnv0, .int tnv1, .int tnv2, .ref tn_3, .ref tn_4, .ref tn_5, .ref tn_6, .int tnv7, .int tnv8, .ref tn_9, .ref tn_10, .int tnv11, .ref tn_12, .ref tn_13, .ref tn_14, .ref tn_15, .int tnv16, .ref tn_17, .ref tn_18, .ref tnt])), (tn_3, .inl (k 0, 10, .inl tng3)), (tn_4, .inl (k 0, 10, .inl tng4)), (tn_5, .inl (k 0, 10, .inl tng5)), (tn_9, .inl (k 0, 4, .inl tng9)), (tn_10, .inl (k 0, 4, .inl tng10))]) hP hD [3, 4, 5, 6, 7, 8, 9, 10] [0, 1, 2] rfl rfl (by decide +kernel) (by decide +kernel) hk1 hFc hP1 hD1
    clear hK1 hP1 hD1 hPc hDc hFc
    clear hk1 hz1 ht hvm
    have hP : va_P D vwCl [(ob, .inr (3, [.ref oba, .ref ob_1])), (ob_1, .inl (k 2, 1000, .inr (.inl obg1))), (tn_6, .inl (k 0, 10, .inl tng6)), (oba, .inr (1, [.ref oba_0, .int o_5, .int o_6])), (oba_0, .inl (k 0, 8, .inl o_7)), (tn, .inr (10, [.int tnv0, .int tnv1, .int tnv2, .ref tn_3, .ref tn_4, .ref tn_5, .ref tn_6, .int tnv7, .int tnv8, .ref tn_9, .ref tn_10, .int tnv11, .ref tn_12, .ref tn_13, .ref tn_14, .ref tn_15, .int tnv16, .ref tn_17, .ref tn_18, .ref tnt])), (tn_3, .inl (k 0, 10, .inl tng3)), (tn_4, .inl (k 0, 10, .inl tng4)), (tn_5, .inl (k 0, 10, .inl tng5)), (tn_9, .inl (k 0, 4, .inl tng9)), (tn_10, .inl (k 0, 4, .inl tng10))] H1 := hP
    have hD : va_D A [(ob, .inr (3, [.ref oba, .ref ob_1])), (ob_1, .inl (k 2, 1000, .inr (.inl obg1))), (tn_6, .inl (k 0, 10, .inl tng6)), (oba, .inr (1, [.ref oba_0, .int o_5, .int o_6])), (oba_0, .inl (k 0, 8, .inl o_7)), (tn, .inr (10, [.int tnv0, .int tnv1, .int tnv2, .ref tn_3, .ref tn_4, .ref tn_5, .ref tn_6, .int tnv7, .int tnv8, .ref tn_9, .ref tn_10, .int tnv11, .ref tn_12, .ref tn_13, .ref tn_14, .ref tn_15, .int tnv16, .ref tn_17, .ref tn_18, .ref tnt])), (tn_3, .inl (k 0, 10, .inl tng3)), (tn_4, .inl (k 0, 10, .inl tng4)), (tn_5, .inl (k 0, 10, .inl tng5)), (tn_9, .inl (k 0, 4, .inl tng9)), (tn_10, .inl (k 0, 4, .inl tng10))] := hD
    generalize H1 = H at hP hS ⊢
    have hw_13 : (0 ≤ r_12.toInt ∧ r_12.toInt ≤ 1023) := hw
    have hw_14 := hw_13
    clear hw
    refine lv_iload_n hx hb dX3_weighLanes_43 rfl (lv_at hl 4 rfl) ?_
    refine lv_iconst (v := (-1)) hx hb dX3_weighLanes_44 (by decide) ?_
    refine lv_ixor hx hb dX3_weighLanes_45 ?_
    refine lv_topi (fun x_15 ex_15 => ?_)
    have zrp2 := z_rng p2
    refine lv_iand hx hb dX3_weighLanes_46 ?_
    refine lv_topi (fun x_16 ex_16 => ?_)
    have zrx_15 := z_rng x_15
    have zx_16 : 0 ≤ x_16.toInt ∧ x_16.toInt ≤ r_12.toInt := by rw [ex_16]; exact z_andL (by omega)
    refine lv_istore (lv' := [(9, .int x_16), (8, .int x_10), (0, .ref ob), (1, .ref tn), (2, .int p1), (3, .int p2), (4, .int p3), (5, .long p4), (7, .int 0)]) hx hb dX3_weighLanes_47 hl (by decide) rfl (fun ls hl => ?_)
    refine lv_iload hx hb dX3_weighLanes_49 (lv_at hl 0 rfl) ?_
    refine lv_iload hx hb dX3_weighLanes_51 (lv_at hl 0 rfl) ?_
    refine lv_ineg hx hb dX3_weighLanes_53 ?_
    refine lv_topi (fun x_17 ex_17 => ?_)
    refine lv_iand hx hb dX3_weighLanes_54 ?_
    refine lv_topi (fun x_18 ex_18 => ?_)
    have zrx_17 := z_rng x_17
    have zx_18 : 0 ≤ x_18.toInt ∧ x_18.toInt ≤ x_16.toInt := by rw [ex_18]; exact z_andL (by omega)
    refine lv_iconst (v := 1) hx hb dX3_weighLanes_55 (by decide) ?_
    refine lv_isub hx hb dX3_weighLanes_56 ?_
    refine lv_topi (fun x_19 ex_19 => ?_)
    have zx_19 : x_19.toInt = x_18.toInt - 1 := by rw [ex_19]; exact z_sub rfl rfl (by omega) (by omega)
    obtain ⟨hPc, hDc, hFc⟩ := sub3 hP hD hS hA (ws' := []) [] (by decide +kernel) rfl
    refine va_calli (va_runS (As := [.int x_19]) (rest := []) ⟨hx, hb, hml, hown, hts⟩ (c_J6_bitCount_0f7a4 l D k x_19 H.size) (va_cwS 1 hts (gS tw_5_158 tw_4_101 tw_1_20 tw_4_102) rfl rfl rfl hdS_J6_bitCount_0f7a4 ⟨Nat.le_of_ble_eq_true rfl, Nat.le_of_ble_eq_true rfl⟩) (cz_S hK hPc hDc hN [.int x_19]) rfl rfl hl.1 rfl (lv_room (Nat.le_of_ble_eq_true rfl)) dX3_weighLanes_57 ⟨Nat.le_of_ble_eq_true rfl, Nat.le_of_ble_eq_true rfl⟩) hS (fun q _ h => hFc q h) hFc (fun r_20 uZ tZ H1 locs ht hvm hw hB hz1 hk1 hS => ?_)
    obtain ⟨hP1, hK1, hD1⟩ := hB
    rw [ht] at hP1
    obtain ⟨hP, hD⟩ := va_join (wr := [(ob, .inr (3, [.ref oba, .ref ob_1])), (ob_1, .inl (k 2, 1000, .inr (.inl obg1))), (tn_6, .inl (k 0, 10, .inl tng6)), (oba, .inr (1, [.ref oba_0, .int o_5, .int o_6])), (oba_0, .inl (k 0, 8, .inl o_7)), (tn, .inr (10, [.int tnv0, .int tnv1, .int tnv2, .ref tn_3, .ref tn_4, .ref tn_5, .ref tn_6, .int tnv7, .int tnv8, .ref tn_9, .ref tn_10, .int tnv11, .ref tn_12, .ref tn_13, .ref tn_14, .ref tn_15, .int tnv16, .ref tn_17, .ref tn_18, .ref tnt])), (tn_3, .inl (k 0, 10, .inl tng3)), (tn_4, .inl (k 0, 10, .inl tng4)), (tn_5, .inl (k 0, 10, .inl tng5)), (tn_9, .inl (k 0, 4, .inl tng9)), (tn_10, .inl (k 0, 4, .inl tng10))]) (w1 := []) hP hD [] [0, 1, 2, 3, 4, 5, 6, 7, 8, 9, 10] rfl rfl (by decide +kernel) (by decide +kernel) hk1 hFc hP1 hD1
    clear hK1 hP1 hD1 hPc hDc hFc
    clear hk1 hz1 ht hvm
    have hP : va_P D vwCl [(ob, .inr (3, [.ref oba, .ref ob_1])), (ob_1, .inl (k 2, 1000, .inr (.inl obg1))), (tn_6, .inl (k 0, 10, .inl tng6)), (oba, .inr (1, [.ref oba_0, .int o_5, .int o_6])), (oba_0, .inl (k 0, 8, .inl o_7)), (tn, .inr (10, [.int tnv0, .int tnv1, .int tnv2, .ref tn_3, .ref tn_4, .ref tn_5, .ref tn_6, .int tnv7, .int tnv8, .ref tn_9, .ref tn_10, .int tnv11, .ref tn_12, .ref tn_13, .ref tn_14, .ref tn_15, .int tnv16, .ref tn_17, .ref tn_18, .ref tnt])), (tn_3, .inl (k 0, 10, .inl tng3)), (tn_4, .inl (k 0, 10, .inl tng4)), (tn_5, .inl (k 0, 10, .inl tng5)), (tn_9, .inl (k 0, 4, .inl tng9)), (tn_10, .inl (k 0, 4, .inl tng10))] H1 := hP
    have hD : va_D A [(ob, .inr (3, [.ref oba, .ref ob_1])), (ob_1, .inl (k 2, 1000, .inr (.inl obg1))), (tn_6, .inl (k 0, 10, .inl tng6)), (oba, .inr (1, [.ref oba_0, .int o_5, .int o_6])), (oba_0, .inl (k 0, 8, .inl o_7)), (tn, .inr (10, [.int tnv0, .int tnv1, .int tnv2, .ref tn_3, .ref tn_4, .ref tn_5, .ref tn_6, .int tnv7, .int tnv8, .ref tn_9, .ref tn_10, .int tnv11, .ref tn_12, .ref tn_13, .ref tn_14, .ref tn_15, .int tnv16, .ref tn_17, .ref tn_18, .ref tnt])), (tn_3, .inl (k 0, 10, .inl tng3)), (tn_4, .inl (k 0, 10, .inl tng4)), (tn_5, .inl (k 0, 10, .inl tng5)), (tn_9, .inl (k 0, 4, .inl tng9)), (tn_10, .inl (k 0, 4, .inl tng10))] := hD
    generalize H1 = H at hP hS ⊢
    have hw_21 : (0 ≤ r_20.toInt ∧ r_20.toInt ≤ 63) := hw
    have hw_22 := hw_21
    clear hw
    refine lv_istore (lv' := [(10, .int r_20), (9, .int x_16), (8, .int x_10), (0, .ref ob), (1, .ref tn), (2, .int p1), (3, .int p2), (4, .int p3), (5, .long p4), (7, .int 0)]) hx hb dX3_weighLanes_60 hl (by decide) rfl (fun ls hl => ?_)
    refine lv_iload hx hb dX3_weighLanes_62 (lv_at hl 1 rfl) ?_
    refine lv_if_eq (tgt := 81) hx hb dX3_weighLanes_64 (by decide) (fun h_23 => ?_) (fun h_23 => ?_)
    · skip
      have zh_23 : x_16.toInt = 0 := z_eq h_23
      refine lv_aload_n hx hb dX3_weighLanes_81 rfl (lv_at hl 3 rfl) ?_
      refine va_get (D := D) (ci := 3) (v := .ref ob_1) (C := RX3) (T := TX3) (N := 2) hx hb hts iT_X3 hown hK hP 0 rfl rfl 1 (by decide) (hts _ tw_2_164) (fun _ h9 => h9) rfl dX3_weighLanes_82 ?_
      refine lv_iload hx hb dX3_weighLanes_85 (lv_at hl 2 rfl) ?_
      refine lv_dup2_11 hx hb dX3_weighLanes_87 rfl rfl ?_
      refine va_lald hx hb hK hP 1 2 rfl rfl (z_in (by omega) (by omega)) dX3_weighLanes_88 ?_
      refine lv_topl (fun x_24 ex_24 => ?_)
      refine lv_lload hx hb dX3_weighLanes_89 (lv_at hl 8 rfl) ?_
      refine lv_ladd hx hb dX3_weighLanes_91 ?_
      refine lv_topl (fun x_25 ex_25 => ?_)
      refine va_last hx hb hK hP hD hS 1 2 rfl rfl (z_in (by omega) (by omega)) dX3_weighLanes_92 (fun H locs hP hD hS => ?_)
      obtain ⟨g_26, eg_26⟩ : ∃ z : Nat → Int64, vp_updL obg1 x_10.toNatClampNeg x_25 = z := ⟨_, rfl⟩
      have hP : va_P D vwCl [(ob, .inr (3, [.ref oba, .ref ob_1])), (ob_1, .inl (k 2, 1000, .inr (.inl (vp_updL obg1 x_10.toNatClampNeg x_25)))), (tn_6, .inl (k 0, 10, .inl tng6)), (oba, .inr (1, [.ref oba_0, .int o_5, .int o_6])), (oba_0, .inl (k 0, 8, .inl o_7)), (tn, .inr (10, [.int tnv0, .int tnv1, .int tnv2, .ref tn_3, .ref tn_4, .ref tn_5, .ref tn_6, .int tnv7, .int tnv8, .ref tn_9, .ref tn_10, .int tnv11, .ref tn_12, .ref tn_13, .ref tn_14, .ref tn_15, .int tnv16, .ref tn_17, .ref tn_18, .ref tnt])), (tn_3, .inl (k 0, 10, .inl tng3)), (tn_4, .inl (k 0, 10, .inl tng4)), (tn_5, .inl (k 0, 10, .inl tng5)), (tn_9, .inl (k 0, 4, .inl tng9)), (tn_10, .inl (k 0, 4, .inl tng10))] H := hP
      have hD : va_D A [(ob, .inr (3, [.ref oba, .ref ob_1])), (ob_1, .inl (k 2, 1000, .inr (.inl (vp_updL obg1 x_10.toNatClampNeg x_25)))), (tn_6, .inl (k 0, 10, .inl tng6)), (oba, .inr (1, [.ref oba_0, .int o_5, .int o_6])), (oba_0, .inl (k 0, 8, .inl o_7)), (tn, .inr (10, [.int tnv0, .int tnv1, .int tnv2, .ref tn_3, .ref tn_4, .ref tn_5, .ref tn_6, .int tnv7, .int tnv8, .ref tn_9, .ref tn_10, .int tnv11, .ref tn_12, .ref tn_13, .ref tn_14, .ref tn_15, .int tnv16, .ref tn_17, .ref tn_18, .ref tnt])), (tn_3, .inl (k 0, 10, .inl tng3)), (tn_4, .inl (k 0, 10, .inl tng4)), (tn_5, .inl (k 0, 10, .inl tng5)), (tn_9, .inl (k 0, 4, .inl tng9)), (tn_10, .inl (k 0, 4, .inl tng10))] := hD
      rw [eg_26] at hP hD
      obtain ⟨hP9, hD9⟩ := sub2 hP hD (ws' := [(ob, .inr (3, [.ref oba, .ref ob_1])), (oba, .inr (1, [.ref oba_0, .int o_5, .int o_6])), (oba_0, .inl (k 0, 8, .inl o_7)), (ob_1, .inl (k 2, 1000, .inr (.inl g_26))), (tn, .inr (10, [.int tnv0, .int tnv1, .int tnv2, .ref tn_3, .ref tn_4, .ref tn_5, .ref tn_6, .int tnv7, .int tnv8, .ref tn_9, .ref tn_10, .int tnv11, .ref tn_12, .ref tn_13, .ref tn_14, .ref tn_15, .int tnv16, .ref tn_17, .ref tn_18, .ref tnt])), (tn_3, .inl (k 0, 10, .inl tng3)), (tn_4, .inl (k 0, 10, .inl tng4)), (tn_5, .inl (k 0, 10, .inl tng5)), (tn_6, .inl (k 0, 10, .inl tng6)), (tn_9, .inl (k 0, 4, .inl tng9)), (tn_10, .inl (k 0, 4, .inl tng10))]) [0, 3, 4, 1, 5, 6, 7, 8, 2, 9, 10] (by decide +kernel) rfl
      exact W.vret hx hb hr (fun tZ ht hW => ⟨⟨(o_5, o_6, o_7, g_26), rfl, hw_9, by rw [ht]; exact hP9, va_K.moved hW.alike hK, hD9⟩, hS.F ht⟩) hS.2.2 dX3_weighLanes_93
    · skip
      have zh_23 : ¬ x_16.toInt = 0 := z_ne h_23
      refine lv_iload hx hb dX3_weighLanes_67 (lv_at hl 0 rfl) ?_
      refine lv_bipush (v := 10) hx hb dX3_weighLanes_69 (by decide) ?_
      refine lv_icmp_ge (tgt := 81) hx hb dX3_weighLanes_71 (by decide) (fun h_27 => ?_) (fun h_27 => ?_)
      · skip
        have zh_27 : 10 ≤ r_20.toInt := z_le h_27
        refine lv_aload_n hx hb dX3_weighLanes_81 rfl (lv_at hl 3 rfl) ?_
        refine va_get (D := D) (ci := 3) (v := .ref ob_1) (C := RX3) (T := TX3) (N := 2) hx hb hts iT_X3 hown hK hP 0 rfl rfl 1 (by decide) (hts _ tw_2_164) (fun _ h9 => h9) rfl dX3_weighLanes_82 ?_
        refine lv_iload hx hb dX3_weighLanes_85 (lv_at hl 2 rfl) ?_
        refine lv_dup2_11 hx hb dX3_weighLanes_87 rfl rfl ?_
        refine va_lald hx hb hK hP 1 2 rfl rfl (z_in (by omega) (by omega)) dX3_weighLanes_88 ?_
        refine lv_topl (fun x_28 ex_28 => ?_)
        refine lv_lload hx hb dX3_weighLanes_89 (lv_at hl 8 rfl) ?_
        refine lv_ladd hx hb dX3_weighLanes_91 ?_
        refine lv_topl (fun x_29 ex_29 => ?_)
        refine va_last hx hb hK hP hD hS 1 2 rfl rfl (z_in (by omega) (by omega)) dX3_weighLanes_92 (fun H locs hP hD hS => ?_)
        obtain ⟨g_30, eg_30⟩ : ∃ z : Nat → Int64, vp_updL obg1 x_10.toNatClampNeg x_29 = z := ⟨_, rfl⟩
        have hP : va_P D vwCl [(ob, .inr (3, [.ref oba, .ref ob_1])), (ob_1, .inl (k 2, 1000, .inr (.inl (vp_updL obg1 x_10.toNatClampNeg x_29)))), (tn_6, .inl (k 0, 10, .inl tng6)), (oba, .inr (1, [.ref oba_0, .int o_5, .int o_6])), (oba_0, .inl (k 0, 8, .inl o_7)), (tn, .inr (10, [.int tnv0, .int tnv1, .int tnv2, .ref tn_3, .ref tn_4, .ref tn_5, .ref tn_6, .int tnv7, .int tnv8, .ref tn_9, .ref tn_10, .int tnv11, .ref tn_12, .ref tn_13, .ref tn_14, .ref tn_15, .int tnv16, .ref tn_17, .ref tn_18, .ref tnt])), (tn_3, .inl (k 0, 10, .inl tng3)), (tn_4, .inl (k 0, 10, .inl tng4)), (tn_5, .inl (k 0, 10, .inl tng5)), (tn_9, .inl (k 0, 4, .inl tng9)), (tn_10, .inl (k 0, 4, .inl tng10))] H := hP
        have hD : va_D A [(ob, .inr (3, [.ref oba, .ref ob_1])), (ob_1, .inl (k 2, 1000, .inr (.inl (vp_updL obg1 x_10.toNatClampNeg x_29)))), (tn_6, .inl (k 0, 10, .inl tng6)), (oba, .inr (1, [.ref oba_0, .int o_5, .int o_6])), (oba_0, .inl (k 0, 8, .inl o_7)), (tn, .inr (10, [.int tnv0, .int tnv1, .int tnv2, .ref tn_3, .ref tn_4, .ref tn_5, .ref tn_6, .int tnv7, .int tnv8, .ref tn_9, .ref tn_10, .int tnv11, .ref tn_12, .ref tn_13, .ref tn_14, .ref tn_15, .int tnv16, .ref tn_17, .ref tn_18, .ref tnt])), (tn_3, .inl (k 0, 10, .inl tng3)), (tn_4, .inl (k 0, 10, .inl tng4)), (tn_5, .inl (k 0, 10, .inl tng5)), (tn_9, .inl (k 0, 4, .inl tng9)), (tn_10, .inl (k 0, 4, .inl tng10))] := hD
        rw [eg_30] at hP hD
        obtain ⟨hP9, hD9⟩ := sub2 hP hD (ws' := [(ob, .inr (3, [.ref oba, .ref ob_1])), (oba, .inr (1, [.ref oba_0, .int o_5, .int o_6])), (oba_0, .inl (k 0, 8, .inl o_7)), (ob_1, .inl (k 2, 1000, .inr (.inl g_30))), (tn, .inr (10, [.int tnv0, .int tnv1, .int tnv2, .ref tn_3, .ref tn_4, .ref tn_5, .ref tn_6, .int tnv7, .int tnv8, .ref tn_9, .ref tn_10, .int tnv11, .ref tn_12, .ref tn_13, .ref tn_14, .ref tn_15, .int tnv16, .ref tn_17, .ref tn_18, .ref tnt])), (tn_3, .inl (k 0, 10, .inl tng3)), (tn_4, .inl (k 0, 10, .inl tng4)), (tn_5, .inl (k 0, 10, .inl tng5)), (tn_6, .inl (k 0, 10, .inl tng6)), (tn_9, .inl (k 0, 4, .inl tng9)), (tn_10, .inl (k 0, 4, .inl tng10))]) [0, 3, 4, 1, 5, 6, 7, 8, 2, 9, 10] (by decide +kernel) rfl
        exact W.vret hx hb hr (fun tZ ht hW => ⟨⟨(o_5, o_6, o_7, g_30), rfl, hw_9, by rw [ht]; exact hP9, va_K.moved hW.alike hK, hD9⟩, hS.F ht⟩) hS.2.2 dX3_weighLanes_93
      · skip
        have zh_27 : r_20.toInt < 10 := z_nle h_27
        refine lv_iload hx hb dX3_weighLanes_74 (lv_at hl 9 rfl) ?_
        refine lv_bipush (v := 10) hx hb dX3_weighLanes_76 (by decide) ?_
        refine lv_icmp_lt (tgt := 94) hx hb dX3_weighLanes_78 (by decide) (fun _ => ?_) (fun c9 => absurd c9 (by decide))
        refine lv_iconst (v := 1) hx hb dX3_weighLanes_94 (by decide) ?_
        refine lv_iload hx hb dX3_weighLanes_95 (lv_at hl 0 rfl) ?_
        refine lv_ishl hx hb dX3_weighLanes_97 ?_
        refine lv_topi (fun x_31 ex_31 => ?_)
        have zx_31 : 1 ≤ x_31.toInt ∧ x_31.toInt ≤ 512 := by rw [ex_31]; exact z_shl1 9 512 rfl (by decide) (by omega) (by omega)
        refine lv_istore (lv' := [(11, .int x_31), (10, .int r_20), (9, .int x_16), (8, .int x_10), (0, .ref ob), (1, .ref tn), (2, .int p1), (3, .int p2), (4, .int p3), (5, .long p4), (7, .int 0)]) hx hb dX3_weighLanes_98 hl (by decide) rfl (fun ls hl => ?_)
        refine lv_lload hx hb dX3_weighLanes_100 (lv_at hl 9 rfl) ?_
        refine lv_ldc2 (v := 10) hx hb hown (hts _ tw_5_159) dX3_weighLanes_102 ?_
        refine lv_ldiv hx hb dX3_weighLanes_105 (by decide) ?_
        refine lv_topl (fun x_32 ex_32 => ?_)
        refine lv_lstore (lv' := [(12, .long x_32), (11, .int x_31), (10, .int r_20), (9, .int x_16), (8, .int x_10), (0, .ref ob), (1, .ref tn), (2, .int p1), (3, .int p2), (4, .int p3), (5, .long p4), (7, .int 0)]) hx hb dX3_weighLanes_106 hl (by decide) rfl (fun ls hl => ?_)
        refine lv_aload_n hx hb dX3_weighLanes_108 rfl (lv_at hl 5 rfl) ?_
        refine lv_aload_n hx hb dX3_weighLanes_109 rfl (lv_at hl 6 rfl) ?_
        refine lv_iload_n hx hb dX3_weighLanes_110 rfl (lv_at hl 7 rfl) ?_
        refine lv_iload_n hx hb dX3_weighLanes_111 rfl (lv_at hl 8 rfl) ?_
        refine lv_iload hx hb dX3_weighLanes_112 (lv_at hl 1 rfl) ?_
        refine lv_ior hx hb dX3_weighLanes_114 ?_
        refine lv_topi (fun x_33 ex_33 => ?_)
        refine lv_iload hx hb dX3_weighLanes_115 (lv_at hl 9 rfl) ?_
        refine lv_lload hx hb dX3_weighLanes_117 (lv_at hl 0 rfl) ?_
        refine lv_bipush (v := 10) hx hb dX3_weighLanes_119 (by decide) ?_
        refine lv_aload_n hx hb dX3_weighLanes_121 rfl (lv_at hl 6 rfl) ?_
        refine va_get (D := D) (ci := 10) (v := .ref tn_6) (C := RX10) (T := TX10) (N := 20) hx hb hts iT_X10 hown hK hP 5 rfl rfl 6 (by decide) (hts _ tw_1_98) (fun _ h9 => h9) rfl dX3_weighLanes_122 ?_
        refine lv_iload hx hb dX3_weighLanes_125 (lv_at hl 2 rfl) ?_
        refine va_iald hx hb hK hP 2 0 rfl rfl (z_in (by omega) (by omega)) dX3_weighLanes_127 ?_
        refine lv_topi (fun x_34 ex_34 => ?_)
        have zx_34r0 : 0 ≤ x_34.toInt ∧ x_34.toInt ≤ 10 := by rw [ex_34]; exact PR.ld hp_tng6_0 (by omega) (by omega) (by omega)
        refine lv_isub hx hb dX3_weighLanes_128 ?_
        refine lv_topi (fun x_35 ex_35 => ?_)
        have zx_35 : x_35.toInt = 10 - x_34.toInt := by rw [ex_35]; exact z_sub rfl rfl (by omega) (by omega)
        refine lv_i2l (v := x_35.toInt64) hx hb dX3_weighLanes_129 rfl ?_
        refine lv_lmul hx hb dX3_weighLanes_130 ?_
        refine lv_topl (fun x_36 ex_36 => ?_)
        refine lv_iload hx hb dX3_weighLanes_131 (lv_at hl 11 rfl) ?_
        refine lv_iconst (v := 1) hx hb dX3_weighLanes_133 (by decide) ?_
        refine lv_iadd hx hb dX3_weighLanes_134 ?_
        refine lv_topi (fun x_37 ex_37 => ?_)
        obtain rfl : x_37 = 1 := ex_37.trans (by decide)
        obtain ⟨hPc, hDc, hFc⟩ := sub3 hP hD hS hA (ws' := [(ob, .inr (3, [.ref oba, .ref ob_1])), (oba, .inr (1, [.ref oba_0, .int o_5, .int o_6])), (oba_0, .inl (k 0, 8, .inl o_7)), (ob_1, .inl (k 2, 1000, .inr (.inl obg1))), (tn, .inr (10, [.int tnv0, .int tnv1, .int tnv2, .ref tn_3, .ref tn_4, .ref tn_5, .ref tn_6, .int tnv7, .int tnv8, .ref tn_9, .ref tn_10, .int tnv11, .ref tn_12, .ref tn_13, .ref tn_14, .ref tn_15, .int tnv16, .ref tn_17, .ref tn_18, .ref tnt])), (tn_3, .inl (k 0, 10, .inl tng3)), (tn_4, .inl (k 0, 10, .inl tng4)), (tn_5, .inl (k 0, 10, .inl tng5)), (tn_6, .inl (k 0, 10, .inl tng6)), (tn_9, .inl (k 0, 4, .inl tng9)), (tn_10, .inl (k 0, 4, .inl tng10))]) [0, 3, 4, 1, 5, 6, 7, 8, 2, 9, 10] (by decide +kernel) rfl
        refine va_callv (va_runV (C := RX3) (As := [.ref tn, .int p1, .int x_33, .int p3, .long x_36, .int 1]) (rest := []) ⟨hx, hb, hml, hown, hts⟩ (c_X3_weighLanes_9 l D k ob tn p1 x_33 p3 x_36 oba ob_1 oba_0 o_5 o_6 o_7 obg1 tnv0 tnv1 tnv2 tn_3 tn_4 tn_5 tn_6 tnv7 tnv8 tn_9 tn_10 tnv11 tn_12 tn_13 tn_14 tn_15 tnv16 tn_17 tn_18 tnt tng3 tng4 tng5 tng6 tng9 tng10 H.size (show 0 ≤ p1.toInt ∧ p1.toInt ≤ 7 from by omega) hw_9 (show 0 ≤ tnv0.toInt ∧ tnv0.toInt ≤ 8 from by omega) (show 0 ≤ tnv2.toInt ∧ tnv2.toInt ≤ 10 from by omega) (show 0 ≤ tnv8.toInt ∧ tnv8.toInt ≤ 4 from by omega) (show 0 ≤ tnv11.toInt ∧ tnv11.toInt ≤ 6 from by omega) (show 0 ≤ tnv16.toInt ∧ tnv16.toInt ≤ 2 from by omega) hp_tng3_0 hp_tng4_0 hp_tng5_0 hp_tng6_0 hp_tng9_0 hp_tng10_0) (cwV 6 hts (gV tw_5_151 tw_5_153 tw_p_34 tw_1_12 tw_5_154) rfl rfl rfl hdV_X3_weighLanes ⟨Nat.le_of_ble_eq_true rfl, Nat.le_of_ble_eq_true rfl⟩) (cz_V hK hPc hDc hN (ci := 3) (q0 := 0) rfl rfl [.ref tn, .int p1, .int x_33, .int p3, .long x_36, .int 1]) rfl rfl hl.1 rfl (lv_room (Nat.le_of_ble_eq_true rfl)) dX3_weighLanes_135 ⟨Nat.le_of_ble_eq_true rfl, Nat.le_of_ble_eq_true rfl⟩) hS (fun q _ h => hFc q h) hFc (fun uZ tZ H1 locs ht hvm hw hB hz1 hk1 hS => ?_)
        obtain ⟨o_39, o_40, o_41, o_42⟩ := uZ
        obtain ⟨hP1, hK1, hD1⟩ := hB
        rw [ht] at hP1
        obtain ⟨hP, hD⟩ := va_join (wr := []) (w1 := [(ob, .inr (3, [.ref oba, .ref ob_1])), (oba, .inr (1, [.ref oba_0, .int o_39, .int o_40])), (oba_0, .inl (k 0, 8, .inl o_41)), (ob_1, .inl (k 2, 1000, .inr (.inl o_42))), (tn, .inr (10, [.int tnv0, .int tnv1, .int tnv2, .ref tn_3, .ref tn_4, .ref tn_5, .ref tn_6, .int tnv7, .int tnv8, .ref tn_9, .ref tn_10, .int tnv11, .ref tn_12, .ref tn_13, .ref tn_14, .ref tn_15, .int tnv16, .ref tn_17, .ref tn_18, .ref tnt])), (tn_3, .inl (k 0, 10, .inl tng3)), (tn_4, .inl (k 0, 10, .inl tng4)), (tn_5, .inl (k 0, 10, .inl tng5)), (tn_6, .inl (k 0, 10, .inl tng6)), (tn_9, .inl (k 0, 4, .inl tng9)), (tn_10, .inl (k 0, 4, .inl tng10))]) hP hD [0, 3, 4, 1, 5, 6, 7, 8, 2, 9, 10] [] rfl rfl (by decide +kernel) (by decide +kernel) hk1 hFc hP1 hD1
        clear hK1 hP1 hD1 hPc hDc hFc
        clear hk1 hz1 ht hvm
        have hP : va_P D vwCl [(ob, .inr (3, [.ref oba, .ref ob_1])), (oba, .inr (1, [.ref oba_0, .int o_39, .int o_40])), (oba_0, .inl (k 0, 8, .inl o_41)), (ob_1, .inl (k 2, 1000, .inr (.inl o_42))), (tn, .inr (10, [.int tnv0, .int tnv1, .int tnv2, .ref tn_3, .ref tn_4, .ref tn_5, .ref tn_6, .int tnv7, .int tnv8, .ref tn_9, .ref tn_10, .int tnv11, .ref tn_12, .ref tn_13, .ref tn_14, .ref tn_15, .int tnv16, .ref tn_17, .ref tn_18, .ref tnt])), (tn_3, .inl (k 0, 10, .inl tng3)), (tn_4, .inl (k 0, 10, .inl tng4)), (tn_5, .inl (k 0, 10, .inl tng5)), (tn_6, .inl (k 0, 10, .inl tng6)), (tn_9, .inl (k 0, 4, .inl tng9)), (tn_10, .inl (k 0, 4, .inl tng10))] H1 := hP
        have hD : va_D A [(ob, .inr (3, [.ref oba, .ref ob_1])), (oba, .inr (1, [.ref oba_0, .int o_39, .int o_40])), (oba_0, .inl (k 0, 8, .inl o_41)), (ob_1, .inl (k 2, 1000, .inr (.inl o_42))), (tn, .inr (10, [.int tnv0, .int tnv1, .int tnv2, .ref tn_3, .ref tn_4, .ref tn_5, .ref tn_6, .int tnv7, .int tnv8, .ref tn_9, .ref tn_10, .int tnv11, .ref tn_12, .ref tn_13, .ref tn_14, .ref tn_15, .int tnv16, .ref tn_17, .ref tn_18, .ref tnt])), (tn_3, .inl (k 0, 10, .inl tng3)), (tn_4, .inl (k 0, 10, .inl tng4)), (tn_5, .inl (k 0, 10, .inl tng5)), (tn_6, .inl (k 0, 10, .inl tng6)), (tn_9, .inl (k 0, 4, .inl tng9)), (tn_10, .inl (k 0, 4, .inl tng10))] := hD
        generalize H1 = H at hP hS ⊢
        have hw_43 : (PR 8 1 0 0 1000000 o_41) := hw
        have hw_44 := hw_43
        clear hw
        refine lv_aload_n hx hb dX3_weighLanes_138 rfl (lv_at hl 5 rfl) ?_
        refine lv_aload_n hx hb dX3_weighLanes_139 rfl (lv_at hl 6 rfl) ?_
        refine lv_iload_n hx hb dX3_weighLanes_140 rfl (lv_at hl 7 rfl) ?_
        refine lv_iload_n hx hb dX3_weighLanes_141 rfl (lv_at hl 8 rfl) ?_
        refine lv_iload hx hb dX3_weighLanes_142 (lv_at hl 1 rfl) ?_
        refine lv_ior hx hb dX3_weighLanes_144 ?_
        refine lv_topi (fun x_45 ex_45 => ?_)
        obtain rfl : x_33 = x_45 := ex_33.trans ex_45.symm
        refine lv_iload hx hb dX3_weighLanes_145 (lv_at hl 9 rfl) ?_
        refine lv_iload hx hb dX3_weighLanes_147 (lv_at hl 1 rfl) ?_
        refine lv_ior hx hb dX3_weighLanes_149 ?_
        refine lv_topi (fun x_46 ex_46 => ?_)
        have zrp3 := z_rng p3
        refine lv_lload hx hb dX3_weighLanes_150 (lv_at hl 0 rfl) ?_
        refine lv_aload_n hx hb dX3_weighLanes_152 rfl (lv_at hl 6 rfl) ?_
        refine va_get (D := D) (ci := 10) (v := .ref tn_6) (C := RX10) (T := TX10) (N := 20) hx hb hts iT_X10 hown hK hP 4 rfl rfl 6 (by decide) (hts _ tw_1_98) (fun _ h9 => h9) rfl dX3_weighLanes_153 ?_
        refine lv_iload hx hb dX3_weighLanes_156 (lv_at hl 2 rfl) ?_
        refine va_iald hx hb hK hP 8 0 rfl rfl (z_in (by omega) (by omega)) dX3_weighLanes_158 ?_
        refine lv_topi (fun x_47 ex_47 => ?_)
        obtain rfl : x_34 = x_47 := ex_34.trans ex_47.symm
        refine lv_i2l (v := x_34.toInt64) hx hb dX3_weighLanes_159 rfl ?_
        refine lv_lmul hx hb dX3_weighLanes_160 ?_
        refine lv_topl (fun x_48 ex_48 => ?_)
        refine lv_iload hx hb dX3_weighLanes_161 (lv_at hl 11 rfl) ?_
        refine lv_iconst (v := 1) hx hb dX3_weighLanes_163 (by decide) ?_
        refine lv_iadd hx hb dX3_weighLanes_164 ?_
        refine lv_topi (fun x_49 ex_49 => ?_)
        obtain rfl : x_49 = 1 := ex_49.trans (by decide)
        obtain ⟨hPc, hDc, hFc⟩ := sub3 hP hD hS hA (ws' := [(ob, .inr (3, [.ref oba, .ref ob_1])), (oba, .inr (1, [.ref oba_0, .int o_39, .int o_40])), (oba_0, .inl (k 0, 8, .inl o_41)), (ob_1, .inl (k 2, 1000, .inr (.inl o_42))), (tn, .inr (10, [.int tnv0, .int tnv1, .int tnv2, .ref tn_3, .ref tn_4, .ref tn_5, .ref tn_6, .int tnv7, .int tnv8, .ref tn_9, .ref tn_10, .int tnv11, .ref tn_12, .ref tn_13, .ref tn_14, .ref tn_15, .int tnv16, .ref tn_17, .ref tn_18, .ref tnt])), (tn_3, .inl (k 0, 10, .inl tng3)), (tn_4, .inl (k 0, 10, .inl tng4)), (tn_5, .inl (k 0, 10, .inl tng5)), (tn_6, .inl (k 0, 10, .inl tng6)), (tn_9, .inl (k 0, 4, .inl tng9)), (tn_10, .inl (k 0, 4, .inl tng10))]) [0, 1, 2, 3, 4, 5, 6, 7, 8, 9, 10] (by decide +kernel) rfl
        refine va_callv (va_runV (C := RX3) (As := [.ref tn, .int p1, .int x_33, .int x_46, .long x_48, .int 1]) (rest := []) ⟨hx, hb, hml, hown, hts⟩ (c_X3_weighLanes_9 l D k ob tn p1 x_33 x_46 x_48 oba ob_1 oba_0 o_39 o_40 o_41 o_42 tnv0 tnv1 tnv2 tn_3 tn_4 tn_5 tn_6 tnv7 tnv8 tn_9 tn_10 tnv11 tn_12 tn_13 tn_14 tn_15 tnv16 tn_17 tn_18 tnt tng3 tng4 tng5 tng6 tng9 tng10 H.size (show 0 ≤ p1.toInt ∧ p1.toInt ≤ 7 from by omega) hw_44 (show 0 ≤ tnv0.toInt ∧ tnv0.toInt ≤ 8 from by omega) (show 0 ≤ tnv2.toInt ∧ tnv2.toInt ≤ 10 from by omega) (show 0 ≤ tnv8.toInt ∧ tnv8.toInt ≤ 4 from by omega) (show 0 ≤ tnv11.toInt ∧ tnv11.toInt ≤ 6 from by omega) (show 0 ≤ tnv16.toInt ∧ tnv16.toInt ≤ 2 from by omega) hp_tng3_0 hp_tng4_0 hp_tng5_0 hp_tng6_0 hp_tng9_0 hp_tng10_0) (cwV 6 hts (gV tw_5_151 tw_5_153 tw_p_34 tw_1_12 tw_5_154) rfl rfl rfl hdV_X3_weighLanes ⟨Nat.le_of_ble_eq_true rfl, Nat.le_of_ble_eq_true rfl⟩) (cz_V hK hPc hDc hN (ci := 3) (q0 := 0) rfl rfl [.ref tn, .int p1, .int x_33, .int x_46, .long x_48, .int 1]) rfl rfl hl.1 rfl (lv_room (Nat.le_of_ble_eq_true rfl)) dX3_weighLanes_165 ⟨Nat.le_of_ble_eq_true rfl, Nat.le_of_ble_eq_true rfl⟩) hS (fun q _ h => hFc q h) hFc (fun uZ tZ H1 locs ht hvm hw hB hz1 hk1 hS => ?_)
        obtain ⟨o_51, o_52, o_53, o_54⟩ := uZ
        obtain ⟨hP1, hK1, hD1⟩ := hB
        rw [ht] at hP1
        obtain ⟨hP, hD⟩ := va_join (wr := []) (w1 := [(ob, .inr (3, [.ref oba, .ref ob_1])), (oba, .inr (1, [.ref oba_0, .int o_51, .int o_52])), (oba_0, .inl (k 0, 8, .inl o_53)), (ob_1, .inl (k 2, 1000, .inr (.inl o_54))), (tn, .inr (10, [.int tnv0, .int tnv1, .int tnv2, .ref tn_3, .ref tn_4, .ref tn_5, .ref tn_6, .int tnv7, .int tnv8, .ref tn_9, .ref tn_10, .int tnv11, .ref tn_12, .ref tn_13, .ref tn_14, .ref tn_15, .int tnv16, .ref tn_17, .ref tn_18, .ref tnt])), (tn_3, .inl (k 0, 10, .inl tng3)), (tn_4, .inl (k 0, 10, .inl tng4)), (tn_5, .inl (k 0, 10, .inl tng5)), (tn_6, .inl (k 0, 10, .inl tng6)), (tn_9, .inl (k 0, 4, .inl tng9)), (tn_10, .inl (k 0, 4, .inl tng10))]) hP hD [0, 1, 2, 3, 4, 5, 6, 7, 8, 9, 10] [] rfl rfl (by decide +kernel) (by decide +kernel) hk1 hFc hP1 hD1
        clear hK1 hP1 hD1 hPc hDc hFc
        clear hk1 hz1 ht hvm
        have hP : va_P D vwCl [(ob, .inr (3, [.ref oba, .ref ob_1])), (oba, .inr (1, [.ref oba_0, .int o_51, .int o_52])), (oba_0, .inl (k 0, 8, .inl o_53)), (ob_1, .inl (k 2, 1000, .inr (.inl o_54))), (tn, .inr (10, [.int tnv0, .int tnv1, .int tnv2, .ref tn_3, .ref tn_4, .ref tn_5, .ref tn_6, .int tnv7, .int tnv8, .ref tn_9, .ref tn_10, .int tnv11, .ref tn_12, .ref tn_13, .ref tn_14, .ref tn_15, .int tnv16, .ref tn_17, .ref tn_18, .ref tnt])), (tn_3, .inl (k 0, 10, .inl tng3)), (tn_4, .inl (k 0, 10, .inl tng4)), (tn_5, .inl (k 0, 10, .inl tng5)), (tn_6, .inl (k 0, 10, .inl tng6)), (tn_9, .inl (k 0, 4, .inl tng9)), (tn_10, .inl (k 0, 4, .inl tng10))] H1 := hP
        have hD : va_D A [(ob, .inr (3, [.ref oba, .ref ob_1])), (oba, .inr (1, [.ref oba_0, .int o_51, .int o_52])), (oba_0, .inl (k 0, 8, .inl o_53)), (ob_1, .inl (k 2, 1000, .inr (.inl o_54))), (tn, .inr (10, [.int tnv0, .int tnv1, .int tnv2, .ref tn_3, .ref tn_4, .ref tn_5, .ref tn_6, .int tnv7, .int tnv8, .ref tn_9, .ref tn_10, .int tnv11, .ref tn_12, .ref tn_13, .ref tn_14, .ref tn_15, .int tnv16, .ref tn_17, .ref tn_18, .ref tnt])), (tn_3, .inl (k 0, 10, .inl tng3)), (tn_4, .inl (k 0, 10, .inl tng4)), (tn_5, .inl (k 0, 10, .inl tng5)), (tn_6, .inl (k 0, 10, .inl tng6)), (tn_9, .inl (k 0, 4, .inl tng9)), (tn_10, .inl (k 0, 4, .inl tng10))] := hD
        generalize H1 = H at hP hS ⊢
        have hw_55 : (PR 8 1 0 0 1000000 o_53) := hw
        have hw_56 := hw_55
        clear hw
        obtain ⟨hP9, hD9⟩ := sub2 hP hD (ws' := [(ob, .inr (3, [.ref oba, .ref ob_1])), (oba, .inr (1, [.ref oba_0, .int o_51, .int o_52])), (oba_0, .inl (k 0, 8, .inl o_53)), (ob_1, .inl (k 2, 1000, .inr (.inl o_54))), (tn, .inr (10, [.int tnv0, .int tnv1, .int tnv2, .ref tn_3, .ref tn_4, .ref tn_5, .ref tn_6, .int tnv7, .int tnv8, .ref tn_9, .ref tn_10, .int tnv11, .ref tn_12, .ref tn_13, .ref tn_14, .ref tn_15, .int tnv16, .ref tn_17, .ref tn_18, .ref tnt])), (tn_3, .inl (k 0, 10, .inl tng3)), (tn_4, .inl (k 0, 10, .inl tng4)), (tn_5, .inl (k 0, 10, .inl tng5)), (tn_6, .inl (k 0, 10, .inl tng6)), (tn_9, .inl (k 0, 4, .inl tng9)), (tn_10, .inl (k 0, 4, .inl tng10))]) [0, 1, 2, 3, 4, 5, 6, 7, 8, 9, 10] (by decide +kernel) rfl
        exact W.vret hx hb hr (fun tZ ht hW => ⟨⟨(o_51, o_52, o_53, o_54), rfl, hw_56, by rw [ht]; exact hP9, va_K.moved hW.alike hK, hD9⟩, hS.F ht⟩) hS.2.2 dX3_weighLanes_168
  · skip
    have zh_11 : 1000 ≤ x_10.toInt := z_nlt h_11
    obtain ⟨hP9, hD9⟩ := sub2 hP hD (ws' := [(ob, .inr (3, [.ref oba, .ref ob_1])), (oba, .inr (1, [.ref oba_0, .int o_5, .int o_6])), (oba_0, .inl (k 0, 8, .inl o_7)), (ob_1, .inl (k 2, 1000, .inr (.inl obg1))), (tn, .inr (10, [.int tnv0, .int tnv1, .int tnv2, .ref tn_3, .ref tn_4, .ref tn_5, .ref tn_6, .int tnv7, .int tnv8, .ref tn_9, .ref tn_10, .int tnv11, .ref tn_12, .ref tn_13, .ref tn_14, .ref tn_15, .int tnv16, .ref tn_17, .ref tn_18, .ref tnt])), (tn_3, .inl (k 0, 10, .inl tng3)), (tn_4, .inl (k 0, 10, .inl tng4)), (tn_5, .inl (k 0, 10, .inl tng5)), (tn_6, .inl (k 0, 10, .inl tng6)), (tn_9, .inl (k 0, 4, .inl tng9)), (tn_10, .inl (k 0, 4, .inl tng10))]) [0, 3, 4, 1, 5, 6, 7, 8, 2, 9, 10] (by decide +kernel) rfl
    exact W.vret hx hb hr (fun tZ ht hW => ⟨⟨(o_5, o_6, o_7, obg1), rfl, hw_9, by rw [ht]; exact hP9, va_K.moved hW.alike hK, hD9⟩, hS.F ht⟩) hS.2.2 dX3_weighLanes_33
set_option maxHeartbeats 4000000 in
set_option maxRecDepth 100000 in
theorem c_X3_weighStreet (l : Launch) (D : va_G) (k : Nat → ClassId) (ob : Nat) (tn : Nat) (p1 : Int32) (oba : Nat) (ob_1 : Nat) (oba_0 : Nat) (obav1 : Int32) (obav2 : Int32) (obag0 : Nat → Int32) (obg1 : Nat → Int64) (tnv0 : Int32) (tnv1 : Int32) (tnv2 : Int32) (tn_3 : Nat) (tn_4 : Nat) (tn_5 : Nat) (tn_6 : Nat) (tnv7 : Int32) (tnv8 : Int32) (tn_9 : Nat) (tn_10 : Nat) (tnv11 : Int32) (tn_12 : Nat) (tn_13 : Nat) (tn_14 : Nat) (tn_15 : Nat) (tnv16 : Int32) (tn_17 : Nat) (tn_18 : Nat) (tnt : Nat) (tng3 : Nat → Int32) (tng4 : Nat → Int32) (tng5 : Nat → Int32) (tng6 : Nat → Int32) (tng9 : Nat → Int32) (tng10 : Nat → Int32) (sz : Nat) (h_p1 : 0 ≤ p1.toInt ∧ p1.toInt ≤ 7) (hp_obag0_0 : PR 8 1 0 0 1000000 obag0) (h_tnv0 : 0 ≤ tnv0.toInt ∧ tnv0.toInt ≤ 8) (h_tnv2 : 0 ≤ tnv2.toInt ∧ tnv2.toInt ≤ 10) (h_tnv8 : 0 ≤ tnv8.toInt ∧ tnv8.toInt ≤ 4) (h_tnv11 : 0 ≤ tnv11.toInt ∧ tnv11.toInt ≤ 6) (h_tnv16 : 0 ≤ tnv16.toInt ∧ tnv16.toInt ≤ 2) (hp_tng3_0 : PR 10 1 0 0 7 tng3) (hp_tng4_0 : PR 10 1 0 0 7 tng4) (hp_tng5_0 : PR 10 1 0 0 60 tng5) (hp_tng6_0 : PR 10 1 0 0 10 tng6) (hp_tng9_0 : PR 4 1 0 0 7 tng9) (hp_tng10_0 : PR 4 1 0 0 99 tng10) : Met l yX3_weighStreet (ww yX3_weighStreet cX3_weighStreet 6 none) ({ frames := 15, cells := 0, slots := 0, locals := 463 }) (Pre0 D k [(ob, .inr (3, [.ref oba, .ref ob_1])), (oba, .inr (1, [.ref oba_0, .int obav1, .int obav2])), (oba_0, .inl (k 0, 8, .inl obag0)), (ob_1, .inl (k 2, 1000, .inr (.inl obg1))), (tn, .inr (10, [.int tnv0, .int tnv1, .int tnv2, .ref tn_3, .ref tn_4, .ref tn_5, .ref tn_6, .int tnv7, .int tnv8, .ref tn_9, .ref tn_10, .int tnv11, .ref tn_12, .ref tn_13, .ref tn_14, .ref tn_15, .int tnv16, .ref tn_17, .ref tn_18, .ref tnt])), (tn_3, .inl (k 0, 10, .inl tng3)), (tn_4, .inl (k 0, 10, .inl tng4)), (tn_5, .inl (k 0, 10, .inl tng5)), (tn_6, .inl (k 0, 10, .inl tng6)), (tn_9, .inl (k 0, 4, .inl tng9)), (tn_10, .inl (k 0, 4, .inl tng10))] sz [.ref ob, .ref tn, .int p1]) (va_Qv (fun (u : Int32 × Int32 × (Nat → Int32) × (Nat → Int64)) => match u with | (obav1z, obav2z, obag0z, obg1z) => (PR 8 1 0 0 1000000 obag0z)) (fun (u : Int32 × Int32 × (Nat → Int32) × (Nat → Int64)) tZ => match u with | (obav1z, obav2z, obag0z, obg1z) => Bw D k (va_A [(ob, .inr (3, [.ref oba, .ref ob_1])), (oba, .inr (1, [.ref oba_0, .int obav1, .int obav2])), (oba_0, .inl (k 0, 8, .inl obag0)), (ob_1, .inl (k 2, 1000, .inr (.inl obg1))), (tn, .inr (10, [.int tnv0, .int tnv1, .int tnv2, .ref tn_3, .ref tn_4, .ref tn_5, .ref tn_6, .int tnv7, .int tnv8, .ref tn_9, .ref tn_10, .int tnv11, .ref tn_12, .ref tn_13, .ref tn_14, .ref tn_15, .int tnv16, .ref tn_17, .ref tn_18, .ref tnt])), (tn_3, .inl (k 0, 10, .inl tng3)), (tn_4, .inl (k 0, 10, .inl tng4)), (tn_5, .inl (k 0, 10, .inl tng5)), (tn_6, .inl (k 0, 10, .inl tng6)), (tn_9, .inl (k 0, 4, .inl tng9)), (tn_10, .inl (k 0, 4, .inl tng10))] sz) [(ob, .inr (3, [.ref oba, .ref ob_1])), (oba, .inr (1, [.ref oba_0, .int obav1z, .int obav2z])), (oba_0, .inl (k 0, 8, .inl obag0z)), (ob_1, .inl (k 2, 1000, .inr (.inl obg1z))), (tn, .inr (10, [.int tnv0, .int tnv1, .int tnv2, .ref tn_3, .ref tn_4, .ref tn_5, .ref tn_6, .int tnv7, .int tnv8, .ref tn_9, .ref tn_10, .int tnv11, .ref tn_12, .ref tn_13, .ref tn_14, .ref tn_15, .int tnv16, .ref tn_17, .ref tn_18, .ref tnt])), (tn_3, .inl (k 0, 10, .inl tng3)), (tn_4, .inl (k 0, 10, .inl tng4)), (tn_5, .inl (k 0, 10, .inl tng5)), (tn_6, .inl (k 0, 10, .inl tng6)), (tn_9, .inl (k 0, 4, .inl tng9)), (tn_10, .inl (k 0, 4, .inl tng10))] tZ) (va_A [(ob, .inr (3, [.ref oba, .ref ob_1])), (oba, .inr (1, [.ref oba_0, .int obav1, .int obav2])), (oba_0, .inl (k 0, 8, .inl obag0)), (ob_1, .inl (k 2, 1000, .inr (.inl obg1))), (tn, .inr (10, [.int tnv0, .int tnv1, .int tnv2, .ref tn_3, .ref tn_4, .ref tn_5, .ref tn_6, .int tnv7, .int tnv8, .ref tn_9, .ref tn_10, .int tnv11, .ref tn_12, .ref tn_13, .ref tn_14, .ref tn_15, .int tnv16, .ref tn_17, .ref tn_18, .ref tnt])), (tn_3, .inl (k 0, 10, .inl tng3)), (tn_4, .inl (k 0, 10, .inl tng4)), (tn_5, .inl (k 0, 10, .inl tng5)), (tn_6, .inl (k 0, 10, .inl tng6)), (tn_9, .inl (k 0, 4, .inl tng9)), (tn_10, .inl (k 0, 4, .inl tng10))] sz)) 0 0 (va_A [(ob, .inr (3, [.ref oba, .ref ob_1])), (oba, .inr (1, [.ref oba_0, .int obav1, .int obav2])), (oba_0, .inl (k 0, 8, .inl obag0)), (ob_1, .inl (k 2, 1000, .inr (.inl obg1))), (tn, .inr (10, [.int tnv0, .int tnv1, .int tnv2, .ref tn_3, .ref tn_4, .ref tn_5, .ref tn_6, .int tnv7, .int tnv8, .ref tn_9, .ref tn_10, .int tnv11, .ref tn_12, .ref tn_13, .ref tn_14, .ref tn_15, .int tnv16, .ref tn_17, .ref tn_18, .ref tnt])), (tn_3, .inl (k 0, 10, .inl tng3)), (tn_4, .inl (k 0, 10, .inl tng4)), (tn_5, .inl (k 0, 10, .inl tng5)), (tn_6, .inl (k 0, 10, .inl tng6)), (tn_9, .inl (k 0, 4, .inl tng9)), (tn_10, .inl (k 0, 4, .inl tng10))] sz) := by
  refine Met.ofW (cc := cX3_weighStreet) (maxL := 6) (ret := none) (by decide +kernel) rfl ?_
  intro p e s m args below meth c s₁ B hml hv
  obtain ⟨rfl, hsz, hP, hK, hD0, hN⟩ := hv
  have hx := B.exec
  have hb := B.bytes
  have hr := B.returns
  have hts : ∀ w ∈ TT, w.before _ s = true := fun w h => atoms_spec (ws := ww yX3_weighStreet cX3_weighStreet 6 none) B.pre w (List.mem_cons_of_mem _ h)
  have hown : s.vm.findClass RX3 = some m.cls := findClass_of_methodNamed B.named
  have hlocks := B.notSynchronized
  subst hsz
  have hD := hD0.self (sz := s.heap.size)
  generalize hAe : va_A [(ob, .inr (3, [.ref oba, .ref ob_1])), (oba, .inr (1, [.ref oba_0, .int obav1, .int obav2])), (oba_0, .inl (k 0, 8, .inl obag0)), (ob_1, .inl (k 2, 1000, .inr (.inl obg1))), (tn, .inr (10, [.int tnv0, .int tnv1, .int tnv2, .ref tn_3, .ref tn_4, .ref tn_5, .ref tn_6, .int tnv7, .int tnv8, .ref tn_9, .ref tn_10, .int tnv11, .ref tn_12, .ref tn_13, .ref tn_14, .ref tn_15, .int tnv16, .ref tn_17, .ref tn_18, .ref tnt])), (tn_3, .inl (k 0, 10, .inl tng3)), (tn_4, .inl (k 0, 10, .inl tng4)), (tn_5, .inl (k 0, 10, .inl tng5)), (tn_6, .inl (k 0, 10, .inl tng6)), (tn_9, .inl (k 0, 4, .inl tng9)), (tn_10, .inl (k 0, 4, .inl tng10))] s.heap.size = A at hD ⊢
  have hA : ∀ q : Nat, s.heap.size ≤ q → A q := fun q h => by rw [← hAe]; exact Or.inr h
  have hS : va_S A s.heap s.heap [] := va_S.rf
  have hl := lv_entry ([.ref ob, .ref tn, .int p1]) (n := 6) (Nat.le_of_ble_eq_true rfl)
  rw [lg_entry_eq]
  generalize (lg_sl ([.ref ob, .ref tn, .int p1]) ++ List.replicate (6 - (lg_sl ([.ref ob, .ref tn, .int p1])).length) Slot.unset).toArray = ls at hl ⊢
  have hl : lv_has ls 6 [(0, .ref ob), (1, .ref tn), (2, .int p1)] := hl
  refine lv_aload_n hx hb dX3_weighStreet_0 rfl (lv_at hl 0 rfl) ?_
  refine va_get (D := D) (ci := 3) (v := .ref ob_1) (C := RX3) (T := TX3) (N := 2) hx hb hts iT_X3 hown hK hP 0 rfl rfl 1 (by decide) (hts _ tw_2_164) (fun _ h9 => h9) rfl dX3_weighStreet_1 ?_
  refine lv_lconst (v := 0) hx hb dX3_weighStreet_4 (by decide) ?_
  obtain ⟨hPc, hDc, hFc⟩ := sub3 hP hD hS hA (ws' := [(ob_1, .inl (k 2, 1000, .inr (.inl obg1)))]) [3] (by decide +kernel) rfl
  refine va_callv (va_runS (As := [.ref ob_1, .long 0]) (rest := []) ⟨hx, hb, hml, hown, hts⟩ (c_J7_fill_d0a16_0 l D k ob_1 obg1 s.heap.size) (va_cwS 2 hts (gS tw_5_147 tw_5_148 tw_1_19 tw_5_149) rfl rfl rfl hdS_J7_fill_d0a16 ⟨Nat.le_of_ble_eq_true rfl, Nat.le_of_ble_eq_true rfl⟩) (cz_S hK hPc hDc hN [.ref ob_1, .long 0]) rfl rfl hl.1 rfl (lv_room (Nat.le_of_ble_eq_true rfl)) dX3_weighStreet_5 ⟨Nat.le_of_ble_eq_true rfl, Nat.le_of_ble_eq_true rfl⟩) hS (fun q _ h => hFc q h) hFc (fun uZ tZ H1 locs ht hvm hw hB hz1 hk1 hS => ?_)
  obtain ⟨o_2, rfl⟩ : ∃ z, z = uZ := ⟨_, rfl⟩
  obtain ⟨hP1, hK1, hD1⟩ := hB
  rw [ht] at hP1
  obtain ⟨hP, hD⟩ := va_join (wr := [(ob, .inr (3, [.ref oba, .ref ob_1])), (oba, .inr (1, [.ref oba_0, .int obav1, .int obav2])), (oba_0, .inl (k 0, 8, .inl obag0)), (tn, .inr (10, [.int tnv0, .int tnv1, .int tnv2, .ref tn_3, .ref tn_4, .ref tn_5, .ref tn_6, .int tnv7, .int tnv8, .ref tn_9, .ref tn_10, .int tnv11, .ref tn_12, .ref tn_13, .ref tn_14, .ref tn_15, .int tnv16, .ref tn_17, .ref tn_18, .ref tnt])), (tn_3, .inl (k 0, 10, .inl tng3)), (tn_4, .inl (k 0, 10, .inl tng4)), (tn_5, .inl (k 0, 10, .inl tng5)), (tn_6, .inl (k 0, 10, .inl tng6)), (tn_9, .inl (k 0, 4, .inl tng9)), (tn_10, .inl (k 0, 4, .inl tng10))]) (w1 := [(ob_1, .inl (k 2, 1000, .inr (.inl o_2)))]) hP hD [3] [0, 1, 2, 4, 5, 6, 7, 8, 9, 10] rfl rfl (by decide +kernel) (by decide +kernel) hk1 hFc hP1 hD1
  clear hK1 hP1 hD1 hPc hDc hFc
  clear hk1 hz1 ht hvm
  have hP : va_P D vwCl [(ob, .inr (3, [.ref oba, .ref ob_1])), (oba, .inr (1, [.ref oba_0, .int obav1, .int obav2])), (oba_0, .inl (k 0, 8, .inl obag0)), (tn, .inr (10, [.int tnv0, .int tnv1, .int tnv2, .ref tn_3, .ref tn_4, .ref tn_5, .ref tn_6, .int tnv7, .int tnv8, .ref tn_9, .ref tn_10, .int tnv11, .ref tn_12, .ref tn_13, .ref tn_14, .ref tn_15, .int tnv16, .ref tn_17, .ref tn_18, .ref tnt])), (tn_3, .inl (k 0, 10, .inl tng3)), (tn_4, .inl (k 0, 10, .inl tng4)), (tn_5, .inl (k 0, 10, .inl tng5)), (tn_6, .inl (k 0, 10, .inl tng6)), (tn_9, .inl (k 0, 4, .inl tng9)), (tn_10, .inl (k 0, 4, .inl tng10)), (ob_1, .inl (k 2, 1000, .inr (.inl o_2)))] H1 := hP
  have hD : va_D A [(ob, .inr (3, [.ref oba, .ref ob_1])), (oba, .inr (1, [.ref oba_0, .int obav1, .int obav2])), (oba_0, .inl (k 0, 8, .inl obag0)), (tn, .inr (10, [.int tnv0, .int tnv1, .int tnv2, .ref tn_3, .ref tn_4, .ref tn_5, .ref tn_6, .int tnv7, .int tnv8, .ref tn_9, .ref tn_10, .int tnv11, .ref tn_12, .ref tn_13, .ref tn_14, .ref tn_15, .int tnv16, .ref tn_17, .ref tn_18, .ref tnt])), (tn_3, .inl (k 0, 10, .inl tng3)), (tn_4, .inl (k 0, 10, .inl tng4)), (tn_5, .inl (k 0, 10, .inl tng5)), (tn_6, .inl (k 0, 10, .inl tng6)), (tn_9, .inl (k 0, 4, .inl tng9)), (tn_10, .inl (k 0, 4, .inl tng10)), (ob_1, .inl (k 2, 1000, .inr (.inl o_2)))] := hD
  generalize H1 = H at hP hS ⊢
  clear hw
  refine lv_iconst (v := 0) hx hb dX3_weighStreet_8 (by decide) ?_
  refine lv_istore_n (lv' := [(3, .int 0), (0, .ref ob), (1, .ref tn), (2, .int p1)]) hx hb dX3_weighStreet_9 rfl hl (by decide) rfl (fun ls hl => ?_)
  refine lv_iconst (v := 0) hx hb dX3_weighStreet_10 (by decide) ?_
  refine lv_istore (lv' := [(4, .int 0), (3, .int 0), (0, .ref ob), (1, .ref tn), (2, .int p1)]) hx hb dX3_weighStreet_11 hl (by decide) rfl (fun ls hl => ?_)
  refine lv_iconst (v := 0) hx hb dX3_weighStreet_13 (by decide) ?_
  refine lv_istore (lv' := [(5, .int 0), (4, .int 0), (3, .int 0), (0, .ref ob), (1, .ref tn), (2, .int p1)]) hx hb dX3_weighStreet_14 hl (by decide) rfl (fun ls hl => ?_)
  refine loop_r (Wg := fun H locs ls => W p l e _ s m _ below meth c H locs _ _ _ (F0 m 16 ls [])) (fun n9 H locs ls => ∃ (L16l3 : Int32) (L16l4 : Int32) (L16l5 : Int32), n9 = (10 - L16l5.toInt).toNat ∧ (0 ≤ L16l3.toInt ∧ L16l3.toInt ≤ 1023) ∧ (0 ≤ L16l4.toInt ∧ L16l4.toInt ≤ 1023) ∧ (0 ≤ L16l5.toInt ∧ L16l5.toInt ≤ 10) ∧ va_P D vwCl [(ob, .inr (3, [.ref oba, .ref ob_1])), (oba, .inr (1, [.ref oba_0, .int obav1, .int obav2])), (oba_0, .inl (k 0, 8, .inl obag0)), (tn, .inr (10, [.int tnv0, .int tnv1, .int tnv2, .ref tn_3, .ref tn_4, .ref tn_5, .ref tn_6, .int tnv7, .int tnv8, .ref tn_9, .ref tn_10, .int tnv11, .ref tn_12, .ref tn_13, .ref tn_14, .ref tn_15, .int tnv16, .ref tn_17, .ref tn_18, .ref tnt])), (tn_3, .inl (k 0, 10, .inl tng3)), (tn_4, .inl (k 0, 10, .inl tng4)), (tn_5, .inl (k 0, 10, .inl tng5)), (tn_6, .inl (k 0, 10, .inl tng6)), (tn_9, .inl (k 0, 4, .inl tng9)), (tn_10, .inl (k 0, 4, .inl tng10)), (ob_1, .inl (k 2, 1000, .inr (.inl o_2)))] H ∧ va_D A [(ob, .inr (3, [.ref oba, .ref ob_1])), (oba, .inr (1, [.ref oba_0, .int obav1, .int obav2])), (oba_0, .inl (k 0, 8, .inl obag0)), (tn, .inr (10, [.int tnv0, .int tnv1, .int tnv2, .ref tn_3, .ref tn_4, .ref tn_5, .ref tn_6, .int tnv7, .int tnv8, .ref tn_9, .ref tn_10, .int tnv11, .ref tn_12, .ref tn_13, .ref tn_14, .ref tn_15, .int tnv16, .ref tn_17, .ref tn_18, .ref tnt])), (tn_3, .inl (k 0, 10, .inl tng3)), (tn_4, .inl (k 0, 10, .inl tng4)), (tn_5, .inl (k 0, 10, .inl tng5)), (tn_6, .inl (k 0, 10, .inl tng6)), (tn_9, .inl (k 0, 4, .inl tng9)), (tn_10, .inl (k 0, 4, .inl tng10)), (ob_1, .inl (k 2, 1000, .inr (.inl o_2)))] ∧ va_S A s.heap H locs ∧ lv_has ls 6 [(0, .ref ob), (1, .ref tn), (2, .int p1), (3, .int L16l3), (4, .int L16l4), (5, .int L16l5)]) (fun n9 H locs ls hI ih_4 => ?_) _ _ _ _ ⟨0, 0, 0, rfl, (show 0 ≤ 0 ∧ 0 ≤ 1023 from by omega), (show 0 ≤ 0 ∧ 0 ≤ 1023 from by omega), (show 0 ≤ 0 ∧ 0 ≤ 10 from by omega), hP.sub (ws' := [(ob, .inr (3, [.ref oba, .ref ob_1])), (oba, .inr (1, [.ref oba_0, .int obav1, .int obav2])), (oba_0, .inl (k 0, 8, .inl obag0)), (tn, .inr (10, [.int tnv0, .int tnv1, .int tnv2, .ref tn_3, .ref tn_4, .ref tn_5, .ref tn_6, .int tnv7, .int tnv8, .ref tn_9, .ref tn_10, .int tnv11, .ref tn_12, .ref tn_13, .ref tn_14, .ref tn_15, .int tnv16, .ref tn_17, .ref tn_18, .ref tnt])), (tn_3, .inl (k 0, 10, .inl tng3)), (tn_4, .inl (k 0, 10, .inl tng4)), (tn_5, .inl (k 0, 10, .inl tng5)), (tn_6, .inl (k 0, 10, .inl tng6)), (tn_9, .inl (k 0, 4, .inl tng9)), (tn_10, .inl (k 0, 4, .inl tng10)), (ob_1, .inl (k 2, 1000, .inr (.inl o_2)))]) [0, 1, 2, 3, 4, 5, 6, 7, 8, 9, 10] rfl, hD.sub (ws' := [(ob, .inr (3, [.ref oba, .ref ob_1])), (oba, .inr (1, [.ref oba_0, .int obav1, .int obav2])), (oba_0, .inl (k 0, 8, .inl obag0)), (tn, .inr (10, [.int tnv0, .int tnv1, .int tnv2, .ref tn_3, .ref tn_4, .ref tn_5, .ref tn_6, .int tnv7, .int tnv8, .ref tn_9, .ref tn_10, .int tnv11, .ref tn_12, .ref tn_13, .ref tn_14, .ref tn_15, .int tnv16, .ref tn_17, .ref tn_18, .ref tnt])), (tn_3, .inl (k 0, 10, .inl tng3)), (tn_4, .inl (k 0, 10, .inl tng4)), (tn_5, .inl (k 0, 10, .inl tng5)), (tn_6, .inl (k 0, 10, .inl tng6)), (tn_9, .inl (k 0, 4, .inl tng9)), (tn_10, .inl (k 0, 4, .inl tng10)), (ob_1, .inl (k 2, 1000, .inr (.inl o_2)))]) [0, 1, 2, 3, 4, 5, 6, 7, 8, 9, 10] (by decide +kernel) rfl, hS, lv_sub hl [3, 4, 5, 2, 1, 0] rfl⟩
  clear hP hD hS hl
  obtain ⟨L16l3, L16l4, L16l5, en_5, zL16l3, zL16l4, zL16l5, hP, hD, hS, hl⟩ := hI
  refine lv_iload hx hb dX3_weighStreet_16 (lv_at hl 5 rfl) ?_
  refine lv_aload_n hx hb dX3_weighStreet_18 rfl (lv_at hl 1 rfl) ?_
  refine va_get (D := D) (ci := 10) (v := .int tnv2) (C := RX10) (T := TX10) (N := 20) hx hb hts iT_X10 hown hK hP 3 rfl rfl 2 (by decide) (hts _ tw_1_78) (fun _ h9 => h9) rfl dX3_weighStreet_19 ?_
  refine lv_icmp_ge (tgt := 85) hx hb dX3_weighStreet_22 (by decide) (fun h_6 => ?_) (fun h_6 => ?_)
  · skip
    have zh_6 : tnv2.toInt ≤ L16l5.toInt := z_le h_6
    refine lv_aload_n hx hb dX3_weighStreet_85 rfl (lv_at hl 0 rfl) ?_
    refine lv_aload_n hx hb dX3_weighStreet_86 rfl (lv_at hl 1 rfl) ?_
    refine lv_iload_n hx hb dX3_weighStreet_87 rfl (lv_at hl 2 rfl) ?_
    refine lv_iload_n hx hb dX3_weighStreet_88 rfl (lv_at hl 3 rfl) ?_
    refine lv_iload hx hb dX3_weighStreet_89 (lv_at hl 4 rfl) ?_
    refine lv_ldc2 (v := 10000000000) hx hb hown (hts _ tw_5_150) dX3_weighStreet_91 ?_
    refine lv_iconst (v := 0) hx hb dX3_weighStreet_94 (by decide) ?_
    obtain ⟨hPc, hDc, hFc⟩ := sub3 hP hD hS hA (ws' := [(ob, .inr (3, [.ref oba, .ref ob_1])), (oba, .inr (1, [.ref oba_0, .int obav1, .int obav2])), (oba_0, .inl (k 0, 8, .inl obag0)), (ob_1, .inl (k 2, 1000, .inr (.inl o_2))), (tn, .inr (10, [.int tnv0, .int tnv1, .int tnv2, .ref tn_3, .ref tn_4, .ref tn_5, .ref tn_6, .int tnv7, .int tnv8, .ref tn_9, .ref tn_10, .int tnv11, .ref tn_12, .ref tn_13, .ref tn_14, .ref tn_15, .int tnv16, .ref tn_17, .ref tn_18, .ref tnt])), (tn_3, .inl (k 0, 10, .inl tng3)), (tn_4, .inl (k 0, 10, .inl tng4)), (tn_5, .inl (k 0, 10, .inl tng5)), (tn_6, .inl (k 0, 10, .inl tng6)), (tn_9, .inl (k 0, 4, .inl tng9)), (tn_10, .inl (k 0, 4, .inl tng10))]) [0, 1, 2, 10, 3, 4, 5, 6, 7, 8, 9] (by decide +kernel) rfl
    refine va_callv (va_runV (C := RX3) (As := [.ref tn, .int p1, .int L16l3, .int L16l4, .long 10000000000, .int 0]) (rest := []) ⟨hx, hb, hml, hown, hts⟩ (c_X3_weighLanes_10 l D k ob tn p1 L16l3 L16l4 10000000000 oba ob_1 oba_0 obav1 obav2 obag0 o_2 tnv0 tnv1 tnv2 tn_3 tn_4 tn_5 tn_6 tnv7 tnv8 tn_9 tn_10 tnv11 tn_12 tn_13 tn_14 tn_15 tnv16 tn_17 tn_18 tnt tng3 tng4 tng5 tng6 tng9 tng10 H.size (show 0 ≤ p1.toInt ∧ p1.toInt ≤ 7 from by omega) hp_obag0_0 (show 0 ≤ tnv0.toInt ∧ tnv0.toInt ≤ 8 from by omega) (show 0 ≤ tnv2.toInt ∧ tnv2.toInt ≤ 10 from by omega) (show 0 ≤ tnv8.toInt ∧ tnv8.toInt ≤ 4 from by omega) (show 0 ≤ tnv11.toInt ∧ tnv11.toInt ≤ 6 from by omega) (show 0 ≤ tnv16.toInt ∧ tnv16.toInt ≤ 2 from by omega) hp_tng3_0 hp_tng4_0 hp_tng5_0 hp_tng6_0 hp_tng9_0 hp_tng10_0) (cwV 6 hts (gV tw_5_151 tw_5_153 tw_p_34 tw_1_12 tw_5_154) rfl rfl rfl hdV_X3_weighLanes ⟨Nat.le_of_ble_eq_true rfl, Nat.le_of_ble_eq_true rfl⟩) (cz_V hK hPc hDc hN (ci := 3) (q0 := 0) rfl rfl [.ref tn, .int p1, .int L16l3, .int L16l4, .long 10000000000, .int 0]) rfl rfl hl.1 rfl (lv_room (Nat.le_of_ble_eq_true rfl)) dX3_weighStreet_95 ⟨Nat.le_of_ble_eq_true rfl, Nat.le_of_ble_eq_true rfl⟩) hS (fun q _ h => hFc q h) hFc (fun uZ tZ H1 locs ht hvm hw hB hz1 hk1 hS => ?_)
    obtain ⟨o_8, o_9, o_10, o_11⟩ := uZ
    obtain ⟨hP1, hK1, hD1⟩ := hB
    rw [ht] at hP1
    obtain ⟨hP, hD⟩ := va_join (wr := []) (w1 := [(ob, .inr (3, [.ref oba, .ref ob_1])), (oba, .inr (1, [.ref oba_0, .int o_8, .int o_9])), (oba_0, .inl (k 0, 8, .inl o_10)), (ob_1, .inl (k 2, 1000, .inr (.inl o_11))), (tn, .inr (10, [.int tnv0, .int tnv1, .int tnv2, .ref tn_3, .ref tn_4, .ref tn_5, .ref tn_6, .int tnv7, .int tnv8, .ref tn_9, .ref tn_10, .int tnv11, .ref tn_12, .ref tn_13, .ref tn_14, .ref tn_15, .int tnv16, .ref tn_17, .ref tn_18, .ref tnt])), (tn_3, .inl (k 0, 10, .inl tng3)), (tn_4, .inl (k 0, 10, .inl tng4)), (tn_5, .inl (k 0, 10, .inl tng5)), (tn_6, .inl (k 0, 10, .inl tng6)), (tn_9, .inl (k 0, 4, .inl tng9)), (tn_10, .inl (k 0, 4, .inl tng10))]) hP hD [0, 1, 2, 10, 3, 4, 5, 6, 7, 8, 9] [] rfl rfl (by decide +kernel) (by decide +kernel) hk1 hFc hP1 hD1
    clear hK1 hP1 hD1 hPc hDc hFc
    clear hk1 hz1 ht hvm
    have hP : va_P D vwCl [(ob, .inr (3, [.ref oba, .ref ob_1])), (oba, .inr (1, [.ref oba_0, .int o_8, .int o_9])), (oba_0, .inl (k 0, 8, .inl o_10)), (ob_1, .inl (k 2, 1000, .inr (.inl o_11))), (tn, .inr (10, [.int tnv0, .int tnv1, .int tnv2, .ref tn_3, .ref tn_4, .ref tn_5, .ref tn_6, .int tnv7, .int tnv8, .ref tn_9, .ref tn_10, .int tnv11, .ref tn_12, .ref tn_13, .ref tn_14, .ref tn_15, .int tnv16, .ref tn_17, .ref tn_18, .ref tnt])), (tn_3, .inl (k 0, 10, .inl tng3)), (tn_4, .inl (k 0, 10, .inl tng4)), (tn_5, .inl (k 0, 10, .inl tng5)), (tn_6, .inl (k 0, 10, .inl tng6)), (tn_9, .inl (k 0, 4, .inl tng9)), (tn_10, .inl (k 0, 4, .inl tng10))] H1 := hP
    have hD : va_D A [(ob, .inr (3, [.ref oba, .ref ob_1])), (oba, .inr (1, [.ref oba_0, .int o_8, .int o_9])), (oba_0, .inl (k 0, 8, .inl o_10)), (ob_1, .inl (k 2, 1000, .inr (.inl o_11))), (tn, .inr (10, [.int tnv0, .int tnv1, .int tnv2, .ref tn_3, .ref tn_4, .ref tn_5, .ref tn_6, .int tnv7, .int tnv8, .ref tn_9, .ref tn_10, .int tnv11, .ref tn_12, .ref tn_13, .ref tn_14, .ref tn_15, .int tnv16, .ref tn_17, .ref tn_18, .ref tnt])), (tn_3, .inl (k 0, 10, .inl tng3)), (tn_4, .inl (k 0, 10, .inl tng4)), (tn_5, .inl (k 0, 10, .inl tng5)), (tn_6, .inl (k 0, 10, .inl tng6)), (tn_9, .inl (k 0, 4, .inl tng9)), (tn_10, .inl (k 0, 4, .inl tng10))] := hD
    generalize H1 = H at hP hS ⊢
    have hw_12 : (PR 8 1 0 0 1000000 o_10) := hw
    have hw_13 := hw_12
    clear hw
    obtain ⟨hP9, hD9⟩ := sub2 hP hD (ws' := [(ob, .inr (3, [.ref oba, .ref ob_1])), (oba, .inr (1, [.ref oba_0, .int o_8, .int o_9])), (oba_0, .inl (k 0, 8, .inl o_10)), (ob_1, .inl (k 2, 1000, .inr (.inl o_11))), (tn, .inr (10, [.int tnv0, .int tnv1, .int tnv2, .ref tn_3, .ref tn_4, .ref tn_5, .ref tn_6, .int tnv7, .int tnv8, .ref tn_9, .ref tn_10, .int tnv11, .ref tn_12, .ref tn_13, .ref tn_14, .ref tn_15, .int tnv16, .ref tn_17, .ref tn_18, .ref tnt])), (tn_3, .inl (k 0, 10, .inl tng3)), (tn_4, .inl (k 0, 10, .inl tng4)), (tn_5, .inl (k 0, 10, .inl tng5)), (tn_6, .inl (k 0, 10, .inl tng6)), (tn_9, .inl (k 0, 4, .inl tng9)), (tn_10, .inl (k 0, 4, .inl tng10))]) [0, 1, 2, 3, 4, 5, 6, 7, 8, 9, 10] (by decide +kernel) rfl
    exact W.vret hx hb hr (fun tZ ht hW => ⟨⟨(o_8, o_9, o_10, o_11), rfl, hw_13, by rw [ht]; exact hP9, va_K.moved hW.alike hK, hD9⟩, hS.F ht⟩) hS.2.2 dX3_weighStreet_98
  · skip
    have zh_6 : L16l5.toInt < tnv2.toInt := z_nle h_6
    refine lv_aload_n hx hb dX3_weighStreet_25 rfl (lv_at hl 1 rfl) ?_
    refine va_get (D := D) (ci := 10) (v := .ref tn_6) (C := RX10) (T := TX10) (N := 20) hx hb hts iT_X10 hown hK hP 3 rfl rfl 6 (by decide) (hts _ tw_1_98) (fun _ h9 => h9) rfl dX3_weighStreet_26 ?_
    refine lv_iload hx hb dX3_weighStreet_29 (lv_at hl 5 rfl) ?_
    refine va_iald hx hb hK hP 7 0 rfl rfl (z_in (by omega) (by omega)) dX3_weighStreet_31 ?_
    refine lv_topi (fun x_14 ex_14 => ?_)
    have zx_14r0 : 0 ≤ x_14.toInt ∧ x_14.toInt ≤ 10 := by rw [ex_14]; exact PR.ld hp_tng6_0 (by omega) (by omega) (by omega)
    refine lv_if_eq (tgt := 47) hx hb dX3_weighStreet_32 (by decide) (fun h_15 => ?_) (fun h_15 => ?_)
    · skip
      have zh_15 : x_14.toInt = 0 := z_eq h_15
      refine lv_iload_n hx hb dX3_weighStreet_47 rfl (lv_at hl 3 rfl) ?_
      refine lv_iconst (v := 1) hx hb dX3_weighStreet_48 (by decide) ?_
      refine lv_iload hx hb dX3_weighStreet_49 (lv_at hl 5 rfl) ?_
      refine lv_ishl hx hb dX3_weighStreet_51 ?_
      refine lv_topi (fun x_16 ex_16 => ?_)
      have zx_16 : 1 ≤ x_16.toInt ∧ x_16.toInt ≤ 512 := by rw [ex_16]; exact z_shl1 9 512 rfl (by decide) (by omega) (by omega)
      refine lv_ior hx hb dX3_weighStreet_52 ?_
      refine lv_topi (fun x_17 ex_17 => ?_)
      have zx_17 : 0 ≤ x_17.toInt ∧ x_17.toInt < 1024 := by rw [ex_17]; exact z_or 10 1024 rfl (by decide) ⟨by omega, by omega⟩ ⟨by omega, by omega⟩
      refine lv_istore_n (lv' := [(3, .int x_17), (0, .ref ob), (1, .ref tn), (2, .int p1), (4, .int L16l4), (5, .int L16l5)]) hx hb dX3_weighStreet_53 rfl hl (by decide) rfl (fun ls hl => ?_)
      refine lv_iload hx hb dX3_weighStreet_54 (lv_at hl 4 rfl) ?_
      refine lv_aload_n hx hb dX3_weighStreet_56 rfl (lv_at hl 2 rfl) ?_
      refine va_get (D := D) (ci := 10) (v := .ref tn_6) (C := RX10) (T := TX10) (N := 20) hx hb hts iT_X10 hown hK hP 3 rfl rfl 6 (by decide) (hts _ tw_1_98) (fun _ h9 => h9) rfl dX3_weighStreet_57 ?_
      refine lv_iload hx hb dX3_weighStreet_60 (lv_at hl 5 rfl) ?_
      refine va_iald hx hb hK hP 7 0 rfl rfl (z_in (by omega) (by omega)) dX3_weighStreet_62 ?_
      refine lv_topi (fun x_18 ex_18 => ?_)
      obtain rfl : x_14 = x_18 := ex_14.trans ex_18.symm
      refine lv_bipush (v := 10) hx hb dX3_weighStreet_63 (by decide) ?_
      refine lv_icmp_ne (tgt := 75) hx hb dX3_weighStreet_65 (by decide) (fun h_19 => ?_) (fun h_19 => ?_)
      · skip
        have zh_19 : ¬ x_14.toInt = 10 := z_ne h_19
        refine lv_iconst (v := 0) hx hb dX3_weighStreet_75 (by decide) ?_
        refine lv_ior hx hb dX3_weighStreet_76 ?_
        refine lv_topi (fun x_20 ex_20 => ?_)
        have zx_20 : 0 ≤ x_20.toInt ∧ x_20.toInt < 1024 := by rw [ex_20]; exact z_or 10 1024 rfl (by decide) ⟨by omega, by omega⟩ (by decide)
        refine lv_istore (lv' := [(4, .int x_20), (3, .int x_17), (0, .ref ob), (1, .ref tn), (2, .int p1), (5, .int L16l5)]) hx hb dX3_weighStreet_77 hl (by decide) rfl (fun ls hl => ?_)
        obtain ⟨x_21, ex_21⟩ : ∃ y : Int32, y = L16l5 + 1 := ⟨_, rfl⟩
        have zx_21 : x_21.toInt = L16l5.toInt + 1 := by rw [ex_21]; exact z_add rfl rfl (by omega) (by omega)
        refine lv_iinc (v := x_21) (lv' := [(5, .int x_21), (4, .int x_20), (3, .int x_17), (0, .ref ob), (1, .ref tn), (2, .int p1)]) hx hb dX3_weighStreet_79 hl (k := 5) rfl (by rw [ex_21]; rfl) (by decide) rfl (fun ls hl => ?_)
        refine lv_goto (tgt := 16) hx hb dX3_weighStreet_82 (by decide) ?_
        exact ih_4 _ _ _ _ (by omega) ⟨x_17, x_20, x_21, rfl, (show 0 ≤ x_17.toInt ∧ x_17.toInt ≤ 1023 from by omega), (show 0 ≤ x_20.toInt ∧ x_20.toInt ≤ 1023 from by omega), (show 0 ≤ x_21.toInt ∧ x_21.toInt ≤ 10 from by omega), hP.sub (ws' := [(ob, .inr (3, [.ref oba, .ref ob_1])), (oba, .inr (1, [.ref oba_0, .int obav1, .int obav2])), (oba_0, .inl (k 0, 8, .inl obag0)), (tn, .inr (10, [.int tnv0, .int tnv1, .int tnv2, .ref tn_3, .ref tn_4, .ref tn_5, .ref tn_6, .int tnv7, .int tnv8, .ref tn_9, .ref tn_10, .int tnv11, .ref tn_12, .ref tn_13, .ref tn_14, .ref tn_15, .int tnv16, .ref tn_17, .ref tn_18, .ref tnt])), (tn_3, .inl (k 0, 10, .inl tng3)), (tn_4, .inl (k 0, 10, .inl tng4)), (tn_5, .inl (k 0, 10, .inl tng5)), (tn_6, .inl (k 0, 10, .inl tng6)), (tn_9, .inl (k 0, 4, .inl tng9)), (tn_10, .inl (k 0, 4, .inl tng10)), (ob_1, .inl (k 2, 1000, .inr (.inl o_2)))]) [0, 1, 2, 3, 4, 5, 6, 7, 8, 9, 10] rfl, hD.sub (ws' := [(ob, .inr (3, [.ref oba, .ref ob_1])), (oba, .inr (1, [.ref oba_0, .int obav1, .int obav2])), (oba_0, .inl (k 0, 8, .inl obag0)), (tn, .inr (10, [.int tnv0, .int tnv1, .int tnv2, .ref tn_3, .ref tn_4, .ref tn_5, .ref tn_6, .int tnv7, .int tnv8, .ref tn_9, .ref tn_10, .int tnv11, .ref tn_12, .ref tn_13, .ref tn_14, .ref tn_15, .int tnv16, .ref tn_17, .ref tn_18, .ref tnt])), (tn_3, .inl (k 0, 10, .inl tng3)), (tn_4, .inl (k 0, 10, .inl tng4)), (tn_5, .inl (k 0, 10, .inl tng5)), (tn_6, .inl (k 0, 10, .inl tng6)), (tn_9, .inl (k 0, 4, .inl tng9)), (tn_10, .inl (k 0, 4, .inl tng10)), (ob_1, .inl (k 2, 1000, .inr (.inl o_2)))]) [0, 1, 2, 3, 4, 5, 6, 7, 8, 9, 10] (by decide +kernel) rfl, hS, lv_sub hl [3, 4, 5, 2, 1, 0] rfl⟩
      · skip
        have zh_19 : x_14.toInt = 10 := z_eq h_19
        exact False.elim (by omega)
    · skip
      have zh_15 : ¬ x_14.toInt = 0 := z_ne h_15
      refine lv_aload_n hx hb dX3_weighStreet_35 rfl (lv_at hl 1 rfl) ?_
      refine va_get (D := D) (ci := 10) (v := .ref tn_6) (C := RX10) (T := TX10) (N := 20) hx hb hts iT_X10 hown hK hP 3 rfl rfl 6 (by decide) (hts _ tw_1_98) (fun _ h9 => h9) rfl dX3_weighStreet_36 ?_
      refine lv_iload hx hb dX3_weighStreet_39 (lv_at hl 5 rfl) ?_
      refine va_iald hx hb hK hP 7 0 rfl rfl (z_in (by omega) (by omega)) dX3_weighStreet_41 ?_
      refine lv_topi (fun x_22 ex_22 => ?_)
      obtain rfl : x_14 = x_22 := ex_14.trans ex_22.symm
      refine lv_bipush (v := 10) hx hb dX3_weighStreet_42 (by decide) ?_
      refine lv_icmp_ne (tgt := 79) hx hb dX3_weighStreet_44 (by decide) (fun h_23 => ?_) (fun h_23 => ?_)
      · skip
        have zh_23 : ¬ x_14.toInt = 10 := z_ne h_23
        obtain ⟨x_24, ex_24⟩ : ∃ y : Int32, y = L16l5 + 1 := ⟨_, rfl⟩
        have zx_24 : x_24.toInt = L16l5.toInt + 1 := by rw [ex_24]; exact z_add rfl rfl (by omega) (by omega)
        refine lv_iinc (v := x_24) (lv' := [(5, .int x_24), (0, .ref ob), (1, .ref tn), (2, .int p1), (3, .int L16l3), (4, .int L16l4)]) hx hb dX3_weighStreet_79 hl (k := 5) rfl (by rw [ex_24]; rfl) (by decide) rfl (fun ls hl => ?_)
        refine lv_goto (tgt := 16) hx hb dX3_weighStreet_82 (by decide) ?_
        exact ih_4 _ _ _ _ (by omega) ⟨L16l3, L16l4, x_24, rfl, (show 0 ≤ L16l3.toInt ∧ L16l3.toInt ≤ 1023 from by omega), (show 0 ≤ L16l4.toInt ∧ L16l4.toInt ≤ 1023 from by omega), (show 0 ≤ x_24.toInt ∧ x_24.toInt ≤ 10 from by omega), hP.sub (ws' := [(ob, .inr (3, [.ref oba, .ref ob_1])), (oba, .inr (1, [.ref oba_0, .int obav1, .int obav2])), (oba_0, .inl (k 0, 8, .inl obag0)), (tn, .inr (10, [.int tnv0, .int tnv1, .int tnv2, .ref tn_3, .ref tn_4, .ref tn_5, .ref tn_6, .int tnv7, .int tnv8, .ref tn_9, .ref tn_10, .int tnv11, .ref tn_12, .ref tn_13, .ref tn_14, .ref tn_15, .int tnv16, .ref tn_17, .ref tn_18, .ref tnt])), (tn_3, .inl (k 0, 10, .inl tng3)), (tn_4, .inl (k 0, 10, .inl tng4)), (tn_5, .inl (k 0, 10, .inl tng5)), (tn_6, .inl (k 0, 10, .inl tng6)), (tn_9, .inl (k 0, 4, .inl tng9)), (tn_10, .inl (k 0, 4, .inl tng10)), (ob_1, .inl (k 2, 1000, .inr (.inl o_2)))]) [0, 1, 2, 3, 4, 5, 6, 7, 8, 9, 10] rfl, hD.sub (ws' := [(ob, .inr (3, [.ref oba, .ref ob_1])), (oba, .inr (1, [.ref oba_0, .int obav1, .int obav2])), (oba_0, .inl (k 0, 8, .inl obag0)), (tn, .inr (10, [.int tnv0, .int tnv1, .int tnv2, .ref tn_3, .ref tn_4, .ref tn_5, .ref tn_6, .int tnv7, .int tnv8, .ref tn_9, .ref tn_10, .int tnv11, .ref tn_12, .ref tn_13, .ref tn_14, .ref tn_15, .int tnv16, .ref tn_17, .ref tn_18, .ref tnt])), (tn_3, .inl (k 0, 10, .inl tng3)), (tn_4, .inl (k 0, 10, .inl tng4)), (tn_5, .inl (k 0, 10, .inl tng5)), (tn_6, .inl (k 0, 10, .inl tng6)), (tn_9, .inl (k 0, 4, .inl tng9)), (tn_10, .inl (k 0, 4, .inl tng10)), (ob_1, .inl (k 2, 1000, .inr (.inl o_2)))]) [0, 1, 2, 3, 4, 5, 6, 7, 8, 9, 10] (by decide +kernel) rfl, hS, lv_sub hl [1, 2, 3, 4, 5, 0] rfl⟩
      · skip
        have zh_23 : x_14.toInt = 10 := z_eq h_23
        refine lv_iload_n hx hb dX3_weighStreet_47 rfl (lv_at hl 3 rfl) ?_
        refine lv_iconst (v := 1) hx hb dX3_weighStreet_48 (by decide) ?_
        refine lv_iload hx hb dX3_weighStreet_49 (lv_at hl 5 rfl) ?_
        refine lv_ishl hx hb dX3_weighStreet_51 ?_
        refine lv_topi (fun x_25 ex_25 => ?_)
        have zx_25 : 1 ≤ x_25.toInt ∧ x_25.toInt ≤ 512 := by rw [ex_25]; exact z_shl1 9 512 rfl (by decide) (by omega) (by omega)
        refine lv_ior hx hb dX3_weighStreet_52 ?_
        refine lv_topi (fun x_26 ex_26 => ?_)
        have zx_26 : 0 ≤ x_26.toInt ∧ x_26.toInt < 1024 := by rw [ex_26]; exact z_or 10 1024 rfl (by decide) ⟨by omega, by omega⟩ ⟨by omega, by omega⟩
        refine lv_istore_n (lv' := [(3, .int x_26), (0, .ref ob), (1, .ref tn), (2, .int p1), (4, .int L16l4), (5, .int L16l5)]) hx hb dX3_weighStreet_53 rfl hl (by decide) rfl (fun ls hl => ?_)
        refine lv_iload hx hb dX3_weighStreet_54 (lv_at hl 4 rfl) ?_
        refine lv_aload_n hx hb dX3_weighStreet_56 rfl (lv_at hl 2 rfl) ?_
        refine va_get (D := D) (ci := 10) (v := .ref tn_6) (C := RX10) (T := TX10) (N := 20) hx hb hts iT_X10 hown hK hP 3 rfl rfl 6 (by decide) (hts _ tw_1_98) (fun _ h9 => h9) rfl dX3_weighStreet_57 ?_
        refine lv_iload hx hb dX3_weighStreet_60 (lv_at hl 5 rfl) ?_
        refine va_iald hx hb hK hP 7 0 rfl rfl (z_in (by omega) (by omega)) dX3_weighStreet_62 ?_
        refine lv_topi (fun x_27 ex_27 => ?_)
        obtain rfl : x_14 = x_27 := ex_14.trans ex_27.symm
        refine lv_bipush (v := 10) hx hb dX3_weighStreet_63 (by decide) ?_
        refine lv_icmp_ne (tgt := 75) hx hb dX3_weighStreet_65 (by decide) (fun h_28 => ?_) (fun h_28 => ?_)
        · skip
          have zh_28 : ¬ x_14.toInt = 10 := z_ne h_28
          exact False.elim (by omega)
        · skip
          have zh_28 : x_14.toInt = 10 := z_eq h_28
          refine lv_iconst (v := 1) hx hb dX3_weighStreet_68 (by decide) ?_
          refine lv_iload hx hb dX3_weighStreet_69 (lv_at hl 5 rfl) ?_
          refine lv_ishl hx hb dX3_weighStreet_71 ?_
          refine lv_topi (fun x_29 ex_29 => ?_)
          obtain rfl : x_25 = x_29 := ex_25.trans ex_29.symm
          refine lv_goto (tgt := 76) hx hb dX3_weighStreet_72 (by decide) ?_
          refine lv_ior hx hb dX3_weighStreet_76 ?_
          refine lv_topi (fun x_30 ex_30 => ?_)
          have zx_30 : 0 ≤ x_30.toInt ∧ x_30.toInt < 1024 := by rw [ex_30]; exact z_or 10 1024 rfl (by decide) ⟨by omega, by omega⟩ ⟨by omega, by omega⟩
          refine lv_istore (lv' := [(4, .int x_30), (3, .int x_26), (0, .ref ob), (1, .ref tn), (2, .int p1), (5, .int L16l5)]) hx hb dX3_weighStreet_77 hl (by decide) rfl (fun ls hl => ?_)
          obtain ⟨x_31, ex_31⟩ : ∃ y : Int32, y = L16l5 + 1 := ⟨_, rfl⟩
          have zx_31 : x_31.toInt = L16l5.toInt + 1 := by rw [ex_31]; exact z_add rfl rfl (by omega) (by omega)
          refine lv_iinc (v := x_31) (lv' := [(5, .int x_31), (4, .int x_30), (3, .int x_26), (0, .ref ob), (1, .ref tn), (2, .int p1)]) hx hb dX3_weighStreet_79 hl (k := 5) rfl (by rw [ex_31]; rfl) (by decide) rfl (fun ls hl => ?_)
          refine lv_goto (tgt := 16) hx hb dX3_weighStreet_82 (by decide) ?_
          exact ih_4 _ _ _ _ (by omega) ⟨x_26, x_30, x_31, rfl, (show 0 ≤ x_26.toInt ∧ x_26.toInt ≤ 1023 from by omega), (show 0 ≤ x_30.toInt ∧ x_30.toInt ≤ 1023 from by omega), (show 0 ≤ x_31.toInt ∧ x_31.toInt ≤ 10 from by omega), hP.sub (ws' := [(ob, .inr (3, [.ref oba, .ref ob_1])), (oba, .inr (1, [.ref oba_0, .int obav1, .int obav2])), (oba_0, .inl (k 0, 8, .inl obag0)), (tn, .inr (10, [.int tnv0, .int tnv1, .int tnv2, .ref tn_3, .ref tn_4, .ref tn_5, .ref tn_6, .int tnv7, .int tnv8, .ref tn_9, .ref tn_10, .int tnv11, .ref tn_12, .ref tn_13, .ref tn_14, .ref tn_15, .int tnv16, .ref tn_17, .ref tn_18, .ref tnt])), (tn_3, .inl (k 0, 10, .inl tng3)), (tn_4, .inl (k 0, 10, .inl tng4)), (tn_5, .inl (k 0, 10, .inl tng5)), (tn_6, .inl (k 0, 10, .inl tng6)), (tn_9, .inl (k 0, 4, .inl tng9)), (tn_10, .inl (k 0, 4, .inl tng10)), (ob_1, .inl (k 2, 1000, .inr (.inl o_2)))]) [0, 1, 2, 3, 4, 5, 6, 7, 8, 9, 10] rfl, hD.sub (ws' := [(ob, .inr (3, [.ref oba, .ref ob_1])), (oba, .inr (1, [.ref oba_0, .int obav1, .int obav2])), (oba_0, .inl (k 0, 8, .inl obag0)), (tn, .inr (10, [.int tnv0, .int tnv1, .int tnv2, .ref tn_3, .ref tn_4, .ref tn_5, .ref tn_6, .int tnv7, .int tnv8, .ref tn_9, .ref tn_10, .int tnv11, .ref tn_12, .ref tn_13, .ref tn_14, .ref tn_15, .int tnv16, .ref tn_17, .ref tn_18, .ref tnt])), (tn_3, .inl (k 0, 10, .inl tng3)), (tn_4, .inl (k 0, 10, .inl tng4)), (tn_5, .inl (k 0, 10, .inl tng5)), (tn_6, .inl (k 0, 10, .inl tng6)), (tn_9, .inl (k 0, 4, .inl tng9)), (tn_10, .inl (k 0, 4, .inl tng10)), (ob_1, .inl (k 2, 1000, .inr (.inl o_2)))]) [0, 1, 2, 3, 4, 5, 6, 7, 8, 9, 10] (by decide +kernel) rfl, hS, lv_sub hl [3, 4, 5, 2, 1, 0] rfl⟩
set_option maxHeartbeats 4000000 in
set_option maxRecDepth 100000 in
theorem c_X3_commonDivisor (l : Launch) (D : va_G) (k : Nat → ClassId) (p0 : Int64) (p1 : Int64) (sz : Nat) : Met l yX3_commonDivisor (ww yX3_commonDivisor cX3_commonDivisor 11 (some .long)) ({ frames := 0, cells := 0, slots := 0, locals := 0 }) (Pre0 D k [] sz [.long p0, .long p1]) (va_Ql (fun (r : Int64) (_ : Unit) => True) (fun (_ : Unit) tZ => Bw D k (va_A [] sz) [] tZ) (va_A [] sz)) 0 0 (va_A [] sz) := by
  refine Met.ofW (cc := cX3_commonDivisor) (maxL := 11) (ret := (some .long)) (by decide +kernel) rfl ?_
  intro p e s m args below meth c s₁ B hml hv
  obtain ⟨rfl, hsz, hP, hK, hD0, hN⟩ := hv
  have hx := B.exec
  have hb := B.bytes
  have hr := B.returns
  have hts : ∀ w ∈ TT, w.before _ s = true := fun w h => atoms_spec (ws := ww yX3_commonDivisor cX3_commonDivisor 11 (some .long)) B.pre w (List.mem_cons_of_mem _ h)
  have hown : s.vm.findClass RX3 = some m.cls := findClass_of_methodNamed B.named
  have hlocks := B.notSynchronized
  subst hsz
  have hD := hD0.self (sz := s.heap.size)
  generalize hAe : va_A [] s.heap.size = A at hD ⊢
  have hA : ∀ q : Nat, s.heap.size ≤ q → A q := fun q h => by rw [← hAe]; exact Or.inr h
  have hS : va_S A s.heap s.heap [] := va_S.rf
  have hl := lv_entry ([.long p0, .long p1]) (n := 11) (Nat.le_of_ble_eq_true rfl)
  rw [lg_entry_eq]
  generalize (lg_sl ([.long p0, .long p1]) ++ List.replicate (11 - (lg_sl ([.long p0, .long p1])).length) Slot.unset).toArray = ls at hl ⊢
  have hl : lv_has ls 11 [(0, .long p0), (2, .long p1)] := hl
  refine lv_lload_n hx hb dX3_commonDivisor_0 rfl (lv_at hl 0 rfl) ?_
  refine lv_lstore (lv' := [(4, .long p0), (0, .long p0), (2, .long p1)]) hx hb dX3_commonDivisor_1 hl (by decide) rfl (fun ls hl => ?_)
  refine lv_lload_n hx hb dX3_commonDivisor_3 rfl (lv_at hl 2 rfl) ?_
  refine lv_lstore (lv' := [(6, .long p1), (4, .long p0), (0, .long p0), (2, .long p1)]) hx hb dX3_commonDivisor_4 hl (by decide) rfl (fun ls hl => ?_)
  refine lv_iconst (v := 0) hx hb dX3_commonDivisor_6 (by decide) ?_
  refine lv_istore (lv' := [(8, .int 0), (6, .long p1), (4, .long p0), (0, .long p0), (2, .long p1)]) hx hb dX3_commonDivisor_7 hl (by decide) rfl (fun ls hl => ?_)
  refine loop_r (Wg := fun H locs ls => W p l e _ s m _ below meth c H locs _ _ _ (F0 m 9 ls [])) (fun n9 H locs ls => ∃ (L9l4 : Int64) (L9l6 : Int64) (L9l8 : Int32), n9 = (100 - L9l8.toInt).toNat ∧ (0 ≤ L9l8.toInt ∧ L9l8.toInt ≤ 100) ∧ va_P D vwCl [] H ∧ va_D A [] ∧ va_S A s.heap H locs ∧ lv_has ls 11 [(0, .long p0), (2, .long p1), (4, .long L9l4), (6, .long L9l6), (8, .int L9l8)]) (fun n9 H locs ls hI ih_1 => ?_) _ _ _ _ ⟨p0, p1, 0, rfl, (show 0 ≤ 0 ∧ 0 ≤ 100 from by omega), hP.sub (ws' := []) [] rfl, hD.sub (ws' := []) [] (by decide +kernel) rfl, hS, lv_sub hl [3, 4, 2, 1, 0] rfl⟩
  clear hP hD hS hl
  obtain ⟨L9l4, L9l6, L9l8, en_2, zL9l8, hP, hD, hS, hl⟩ := hI
  refine lv_iload hx hb dX3_commonDivisor_9 (lv_at hl 4 rfl) ?_
  refine lv_bipush (v := 100) hx hb dX3_commonDivisor_11 (by decide) ?_
  refine lv_icmp_ge (tgt := 44) hx hb dX3_commonDivisor_13 (by decide) (fun h_3 => ?_) (fun h_3 => ?_)
  · skip
    have zh_3 : 100 ≤ L9l8.toInt := z_le h_3
    refine lv_lload hx hb dX3_commonDivisor_44 (lv_at hl 2 rfl) ?_
    obtain ⟨hP9, hD9⟩ := sub2 hP hD (ws' := []) [] (by decide +kernel) rfl
    exact W.lret (v := L9l4) hx hb hr (fun tZ ht hW => ⟨⟨L9l4, (), rfl, trivial, by rw [ht]; exact hP9, va_K.moved hW.alike hK, hD9⟩, hS.F ht⟩) hS.2.2 dX3_commonDivisor_46
  · skip
    have zh_3 : L9l8.toInt < 100 := z_nle h_3
    refine lv_lload hx hb dX3_commonDivisor_16 (lv_at hl 3 rfl) ?_
    refine lv_lconst (v := 0) hx hb dX3_commonDivisor_18 (by decide) ?_
    refine W.lcmp hx hb dX3_commonDivisor_19 ?_
    refine lv_if_eq (tgt := 44) hx hb dX3_commonDivisor_20 (by decide) (fun h_4 => ?_) (fun h_4 => ?_)
    · skip
      have zh_4 : L9l6.toInt = 0 := zL_eq h_4 rfl rfl
      refine lv_lload hx hb dX3_commonDivisor_44 (lv_at hl 2 rfl) ?_
      obtain ⟨hP9, hD9⟩ := sub2 hP hD (ws' := []) [] (by decide +kernel) rfl
      exact W.lret (v := L9l4) hx hb hr (fun tZ ht hW => ⟨⟨L9l4, (), rfl, trivial, by rw [ht]; exact hP9, va_K.moved hW.alike hK, hD9⟩, hS.F ht⟩) hS.2.2 dX3_commonDivisor_46
    · skip
      have zh_4 : ¬ L9l6.toInt = 0 := zL_ne h_4 rfl rfl
      refine lv_lload hx hb dX3_commonDivisor_23 (lv_at hl 2 rfl) ?_
      refine lv_lload hx hb dX3_commonDivisor_25 (lv_at hl 3 rfl) ?_
      refine lv_lrem hx hb dX3_commonDivisor_27 (fun q9 => by have := congrArg (fun v : Int64 => v.toInt) q9; simp at this; omega) ?_
      refine lv_topl (fun x_5 ex_5 => ?_)
      refine lv_lstore (lv' := [(9, .long x_5), (0, .long p0), (2, .long p1), (4, .long L9l4), (6, .long L9l6), (8, .int L9l8)]) hx hb dX3_commonDivisor_28 hl (by decide) rfl (fun ls hl => ?_)
      refine lv_lload hx hb dX3_commonDivisor_30 (lv_at hl 4 rfl) ?_
      refine lv_lstore (lv' := [(4, .long L9l6), (9, .long x_5), (0, .long p0), (2, .long p1), (6, .long L9l6), (8, .int L9l8)]) hx hb dX3_commonDivisor_32 hl (by decide) rfl (fun ls hl => ?_)
      refine lv_lload hx hb dX3_commonDivisor_34 (lv_at hl 1 rfl) ?_
      refine lv_lstore (lv' := [(6, .long x_5), (4, .long L9l6), (9, .long x_5), (0, .long p0), (2, .long p1), (8, .int L9l8)]) hx hb dX3_commonDivisor_36 hl (by decide) rfl (fun ls hl => ?_)
      obtain ⟨x_6, ex_6⟩ : ∃ y : Int32, y = L9l8 + 1 := ⟨_, rfl⟩
      have zx_6 : x_6.toInt = L9l8.toInt + 1 := by rw [ex_6]; exact z_add rfl rfl (by omega) (by omega)
      refine lv_iinc (v := x_6) (lv' := [(8, .int x_6), (6, .long x_5), (4, .long L9l6), (9, .long x_5), (0, .long p0), (2, .long p1)]) hx hb dX3_commonDivisor_38 hl (k := 5) rfl (by rw [ex_6]; rfl) (by decide) rfl (fun ls hl => ?_)
      refine lv_goto (tgt := 9) hx hb dX3_commonDivisor_41 (by decide) ?_
      exact ih_1 _ _ _ _ (by omega) ⟨L9l6, x_5, x_6, rfl, (show 0 ≤ x_6.toInt ∧ x_6.toInt ≤ 100 from by omega), hP.sub (ws' := []) [] rfl, hD.sub (ws' := []) [] (by decide +kernel) rfl, hS, lv_sub hl [4, 5, 2, 1, 0] rfl⟩
set_option maxHeartbeats 4000000 in
set_option maxRecDepth 100000 in
theorem c_X3_chanceBy (l : Launch) (D : va_G) (k : Nat → ClassId) (ob : Nat) (p0 : Int32) (p1 : Int32) (oba : Nat) (ob_1 : Nat) (obg1 : Nat → Int64) (sz : Nat) : Met l yX3_chanceBy (ww yX3_chanceBy cX3_chanceBy 7 (some .long)) ({ frames := 1, cells := 0, slots := 0, locals := 30 }) (Pre0 D k [(ob, .inr (3, [.ref oba, .ref ob_1])), (ob_1, .inl (k 2, 1000, .inr (.inl obg1)))] sz [.ref ob, .int p0, .int p1]) (va_Ql (fun (r : Int64) (_ : Unit) => True) (fun (_ : Unit) tZ => Bw D k (va_A [(ob, .inr (3, [.ref oba, .ref ob_1])), (ob_1, .inl (k 2, 1000, .inr (.inl obg1)))] sz) [(ob, .inr (3, [.ref oba, .ref ob_1])), (ob_1, .inl (k 2, 1000, .inr (.inl obg1)))] tZ) (va_A [(ob, .inr (3, [.ref oba, .ref ob_1])), (ob_1, .inl (k 2, 1000, .inr (.inl obg1)))] sz)) 0 0 (va_A [(ob, .inr (3, [.ref oba, .ref ob_1])), (ob_1, .inl (k 2, 1000, .inr (.inl obg1)))] sz) := by
  refine Met.ofW (cc := cX3_chanceBy) (maxL := 7) (ret := (some .long)) (by decide +kernel) rfl ?_
  intro p e s m args below meth c s₁ B hml hv
  obtain ⟨rfl, hsz, hP, hK, hD0, hN⟩ := hv
  have hx := B.exec
  have hb := B.bytes
  have hr := B.returns
  have hts : ∀ w ∈ TT, w.before _ s = true := fun w h => atoms_spec (ws := ww yX3_chanceBy cX3_chanceBy 7 (some .long)) B.pre w (List.mem_cons_of_mem _ h)
  have hown : s.vm.findClass RX3 = some m.cls := findClass_of_methodNamed B.named
  have hlocks := B.notSynchronized
  subst hsz
  have hD := hD0.self (sz := s.heap.size)
  generalize hAe : va_A [(ob, .inr (3, [.ref oba, .ref ob_1])), (ob_1, .inl (k 2, 1000, .inr (.inl obg1)))] s.heap.size = A at hD ⊢
  have hA : ∀ q : Nat, s.heap.size ≤ q → A q := fun q h => by rw [← hAe]; exact Or.inr h
  have hS : va_S A s.heap s.heap [] := va_S.rf
  have hl := lv_entry ([.ref ob, .int p0, .int p1]) (n := 7) (Nat.le_of_ble_eq_true rfl)
  rw [lg_entry_eq]
  generalize (lg_sl ([.ref ob, .int p0, .int p1]) ++ List.replicate (7 - (lg_sl ([.ref ob, .int p0, .int p1])).length) Slot.unset).toArray = ls at hl ⊢
  have hl : lv_has ls 7 [(0, .ref ob), (1, .int p0), (2, .int p1)] := hl
  refine lv_lconst (v := 0) hx hb dX3_chanceBy_0 (by decide) ?_
  refine lv_lstore_n (lv' := [(3, .long 0), (0, .ref ob), (1, .int p0), (2, .int p1)]) hx hb dX3_chanceBy_1 rfl hl (by decide) rfl (fun ls hl => ?_)
  refine lv_iconst (v := 0) hx hb dX3_chanceBy_2 (by decide) ?_
  refine lv_istore (lv' := [(5, .int 0), (3, .long 0), (0, .ref ob), (1, .int p0), (2, .int p1)]) hx hb dX3_chanceBy_3 hl (by decide) rfl (fun ls hl => ?_)
  refine loop_r (Wg := fun H locs ls => W p l e _ s m _ below meth c H locs _ _ _ (F0 m 5 ls [])) (fun n9 H locs ls => ∃ (L5l3 : Int64) (L5l5 : Int32), n9 = (1000 - L5l5.toInt).toNat ∧ (0 ≤ L5l5.toInt ∧ L5l5.toInt ≤ 1000) ∧ va_P D vwCl [(ob, .inr (3, [.ref oba, .ref ob_1])), (ob_1, .inl (k 2, 1000, .inr (.inl obg1)))] H ∧ va_D A [(ob, .inr (3, [.ref oba, .ref ob_1])), (ob_1, .inl (k 2, 1000, .inr (.inl obg1)))] ∧ va_S A s.heap H locs ∧ lv_has ls 7 [(0, .ref ob), (1, .int p0), (2, .int p1), (3, .long L5l3), (5, .int L5l5)]) (fun n9 H locs ls hI ih_1 => ?_) _ _ _ _ ⟨0, 0, rfl, (show 0 ≤ 0 ∧ 0 ≤ 1000 from by omega), hP.sub (ws' := [(ob, .inr (3, [.ref oba, .ref ob_1])), (ob_1, .inl (k 2, 1000, .inr (.inl obg1)))]) [0, 1] rfl, hD.sub (ws' := [(ob, .inr (3, [.ref oba, .ref ob_1])), (ob_1, .inl (k 2, 1000, .inr (.inl obg1)))]) [0, 1] (by decide +kernel) rfl, hS, lv_sub hl [2, 3, 4, 1, 0] rfl⟩
  clear hP hD hS hl
  obtain ⟨L5l3, L5l5, en_2, zL5l5, hP, hD, hS, hl⟩ := hI
  refine lv_iload hx hb dX3_chanceBy_5 (lv_at hl 4 rfl) ?_
  refine lv_iload_n hx hb dX3_chanceBy_7 rfl (lv_at hl 1 rfl) ?_
  refine lv_icmp_gt (tgt := 35) hx hb dX3_chanceBy_8 (by decide) (fun h_3 => ?_) (fun h_3 => ?_)
  · skip
    have zh_3 : p0.toInt < L5l5.toInt := z_lt h_3
    refine lv_ldc2 (v := 10000000000) hx hb hown (hts _ tw_5_150) dX3_chanceBy_35 ?_
    refine lv_lload_n hx hb dX3_chanceBy_38 rfl (lv_at hl 3 rfl) ?_
    obtain ⟨hPc, hDc, hFc⟩ := sub3 hP hD hS hA (ws' := []) [] (by decide +kernel) rfl
    refine va_calll (va_runS (As := [.long 10000000000, .long L5l3]) (rest := []) ⟨hx, hb, hml, hown, hts⟩ (c_X3_commonDivisor l D k 10000000000 L5l3 H.size) (va_cwS 2 hts (gS tw_5_164 tw_5_165 tw_1_12 tw_5_166) rfl rfl rfl hdS_X3_commonDivisor ⟨Nat.le_of_ble_eq_true rfl, Nat.le_of_ble_eq_true rfl⟩) (cz_S hK hPc hDc hN [.long 10000000000, .long L5l3]) rfl rfl hl.1 rfl (lv_room (Nat.le_of_ble_eq_true rfl)) dX3_chanceBy_39 ⟨Nat.le_of_ble_eq_true rfl, Nat.le_of_ble_eq_true rfl⟩) hS (fun q _ h => hFc q h) hFc (fun r_4 uZ tZ H1 locs ht hvm hw hB hz1 hk1 hS => ?_)
    obtain ⟨hP1, hK1, hD1⟩ := hB
    rw [ht] at hP1
    obtain ⟨hP, hD⟩ := va_join (wr := [(ob, .inr (3, [.ref oba, .ref ob_1])), (ob_1, .inl (k 2, 1000, .inr (.inl obg1)))]) (w1 := []) hP hD [] [0, 1] rfl rfl (by decide +kernel) (by decide +kernel) hk1 hFc hP1 hD1
    clear hK1 hP1 hD1 hPc hDc hFc
    clear hk1 hz1 ht hvm
    have hP : va_P D vwCl [(ob, .inr (3, [.ref oba, .ref ob_1])), (ob_1, .inl (k 2, 1000, .inr (.inl obg1)))] H1 := hP
    have hD : va_D A [(ob, .inr (3, [.ref oba, .ref ob_1])), (ob_1, .inl (k 2, 1000, .inr (.inl obg1)))] := hD
    generalize H1 = H at hP hS ⊢
    clear hw
    refine lv_lstore (lv' := [(5, .long r_4), (0, .ref ob), (1, .int p0), (2, .int p1), (3, .long L5l3)]) hx hb dX3_chanceBy_42 hl (by decide) rfl (fun ls hl => ?_)
    refine lv_lload hx hb dX3_chanceBy_44 (lv_at hl 0 rfl) ?_
    refine lv_lconst (v := 0) hx hb dX3_chanceBy_46 (by decide) ?_
    refine W.lcmp hx hb dX3_chanceBy_47 ?_
    refine lv_if_gt (tgt := 55) hx hb dX3_chanceBy_48 (by decide) (fun h_6 => ?_) (fun h_6 => ?_)
    · skip
      have zh_6 : 0 < r_4.toInt := zL_gt h_6 rfl rfl
      refine lv_iload_n hx hb dX3_chanceBy_55 rfl (lv_at hl 3 rfl) ?_
      refine lv_if_eq (tgt := 65) hx hb dX3_chanceBy_56 (by decide) (fun h_7 => ?_) (fun h_7 => ?_)
      · skip
        have zh_7 : p1.toInt = 0 := z_eq h_7
        refine lv_lload_n hx hb dX3_chanceBy_65 rfl (lv_at hl 4 rfl) ?_
        refine lv_lload hx hb dX3_chanceBy_66 (lv_at hl 0 rfl) ?_
        refine lv_ldiv hx hb dX3_chanceBy_68 (fun q9 => by have := congrArg (fun v : Int64 => v.toInt) q9; simp at this; omega) ?_
        refine lv_topl (fun x_8 ex_8 => ?_)
        obtain ⟨hP9, hD9⟩ := sub2 hP hD (ws' := [(ob, .inr (3, [.ref oba, .ref ob_1])), (ob_1, .inl (k 2, 1000, .inr (.inl obg1)))]) [0, 1] (by decide +kernel) rfl
        exact W.lret (v := x_8) hx hb hr (fun tZ ht hW => ⟨⟨x_8, (), rfl, trivial, by rw [ht]; exact hP9, va_K.moved hW.alike hK, hD9⟩, hS.F ht⟩) hS.2.2 dX3_chanceBy_69
      · skip
        have zh_7 : ¬ p1.toInt = 0 := z_ne h_7
        refine lv_ldc2 (v := 10000000000) hx hb hown (hts _ tw_5_150) dX3_chanceBy_59 ?_
        refine lv_goto (tgt := 66) hx hb dX3_chanceBy_62 (by decide) ?_
        refine lv_lload hx hb dX3_chanceBy_66 (lv_at hl 0 rfl) ?_
        refine lv_ldiv hx hb dX3_chanceBy_68 (fun q9 => by have := congrArg (fun v : Int64 => v.toInt) q9; simp at this; omega) ?_
        refine lv_topl (fun x_9 ex_9 => ?_)
        obtain ⟨hP9, hD9⟩ := sub2 hP hD (ws' := [(ob, .inr (3, [.ref oba, .ref ob_1])), (ob_1, .inl (k 2, 1000, .inr (.inl obg1)))]) [0, 1] (by decide +kernel) rfl
        exact W.lret (v := x_9) hx hb hr (fun tZ ht hW => ⟨⟨x_9, (), rfl, trivial, by rw [ht]; exact hP9, va_K.moved hW.alike hK, hD9⟩, hS.F ht⟩) hS.2.2 dX3_chanceBy_69
    · skip
      have zh_6 : r_4.toInt ≤ 0 := zL_ngt h_6 rfl rfl
      refine lv_lconst (v := 0) hx hb dX3_chanceBy_51 (by decide) ?_
      refine lv_goto (tgt := 69) hx hb dX3_chanceBy_52 (by decide) ?_
      obtain ⟨hP9, hD9⟩ := sub2 hP hD (ws' := [(ob, .inr (3, [.ref oba, .ref ob_1])), (ob_1, .inl (k 2, 1000, .inr (.inl obg1)))]) [0, 1] (by decide +kernel) rfl
      exact W.lret (v := 0) hx hb hr (fun tZ ht hW => ⟨⟨0, (), rfl, trivial, by rw [ht]; exact hP9, va_K.moved hW.alike hK, hD9⟩, hS.F ht⟩) hS.2.2 dX3_chanceBy_69
  · skip
    have zh_3 : L5l5.toInt ≤ p0.toInt := z_nlt h_3
    refine lv_iload hx hb dX3_chanceBy_11 (lv_at hl 4 rfl) ?_
    refine lv_sipush (v := 1000) hx hb dX3_chanceBy_13 (by decide) ?_
    refine lv_icmp_ge (tgt := 35) hx hb dX3_chanceBy_16 (by decide) (fun h_10 => ?_) (fun h_10 => ?_)
    · skip
      have zh_10 : 1000 ≤ L5l5.toInt := z_le h_10
      refine lv_ldc2 (v := 10000000000) hx hb hown (hts _ tw_5_150) dX3_chanceBy_35 ?_
      refine lv_lload_n hx hb dX3_chanceBy_38 rfl (lv_at hl 3 rfl) ?_
      obtain ⟨hPc, hDc, hFc⟩ := sub3 hP hD hS hA (ws' := []) [] (by decide +kernel) rfl
      refine va_calll (va_runS (As := [.long 10000000000, .long L5l3]) (rest := []) ⟨hx, hb, hml, hown, hts⟩ (c_X3_commonDivisor l D k 10000000000 L5l3 H.size) (va_cwS 2 hts (gS tw_5_164 tw_5_165 tw_1_12 tw_5_166) rfl rfl rfl hdS_X3_commonDivisor ⟨Nat.le_of_ble_eq_true rfl, Nat.le_of_ble_eq_true rfl⟩) (cz_S hK hPc hDc hN [.long 10000000000, .long L5l3]) rfl rfl hl.1 rfl (lv_room (Nat.le_of_ble_eq_true rfl)) dX3_chanceBy_39 ⟨Nat.le_of_ble_eq_true rfl, Nat.le_of_ble_eq_true rfl⟩) hS (fun q _ h => hFc q h) hFc (fun r_11 uZ tZ H1 locs ht hvm hw hB hz1 hk1 hS => ?_)
      obtain ⟨hP1, hK1, hD1⟩ := hB
      rw [ht] at hP1
      obtain ⟨hP, hD⟩ := va_join (wr := [(ob, .inr (3, [.ref oba, .ref ob_1])), (ob_1, .inl (k 2, 1000, .inr (.inl obg1)))]) (w1 := []) hP hD [] [0, 1] rfl rfl (by decide +kernel) (by decide +kernel) hk1 hFc hP1 hD1
      clear hK1 hP1 hD1 hPc hDc hFc
      clear hk1 hz1 ht hvm
      have hP : va_P D vwCl [(ob, .inr (3, [.ref oba, .ref ob_1])), (ob_1, .inl (k 2, 1000, .inr (.inl obg1)))] H1 := hP
      have hD : va_D A [(ob, .inr (3, [.ref oba, .ref ob_1])), (ob_1, .inl (k 2, 1000, .inr (.inl obg1)))] := hD
      generalize H1 = H at hP hS ⊢
      clear hw
      refine lv_lstore (lv' := [(5, .long r_11), (0, .ref ob), (1, .int p0), (2, .int p1), (3, .long L5l3)]) hx hb dX3_chanceBy_42 hl (by decide) rfl (fun ls hl => ?_)
      refine lv_lload hx hb dX3_chanceBy_44 (lv_at hl 0 rfl) ?_
      refine lv_lconst (v := 0) hx hb dX3_chanceBy_46 (by decide) ?_
      refine W.lcmp hx hb dX3_chanceBy_47 ?_
      refine lv_if_gt (tgt := 55) hx hb dX3_chanceBy_48 (by decide) (fun h_13 => ?_) (fun h_13 => ?_)
      · skip
        have zh_13 : 0 < r_11.toInt := zL_gt h_13 rfl rfl
        refine lv_iload_n hx hb dX3_chanceBy_55 rfl (lv_at hl 3 rfl) ?_
        refine lv_if_eq (tgt := 65) hx hb dX3_chanceBy_56 (by decide) (fun h_14 => ?_) (fun h_14 => ?_)
        · skip
          have zh_14 : p1.toInt = 0 := z_eq h_14
          refine lv_lload_n hx hb dX3_chanceBy_65 rfl (lv_at hl 4 rfl) ?_
          refine lv_lload hx hb dX3_chanceBy_66 (lv_at hl 0 rfl) ?_
          refine lv_ldiv hx hb dX3_chanceBy_68 (fun q9 => by have := congrArg (fun v : Int64 => v.toInt) q9; simp at this; omega) ?_
          refine lv_topl (fun x_15 ex_15 => ?_)
          obtain ⟨hP9, hD9⟩ := sub2 hP hD (ws' := [(ob, .inr (3, [.ref oba, .ref ob_1])), (ob_1, .inl (k 2, 1000, .inr (.inl obg1)))]) [0, 1] (by decide +kernel) rfl
          exact W.lret (v := x_15) hx hb hr (fun tZ ht hW => ⟨⟨x_15, (), rfl, trivial, by rw [ht]; exact hP9, va_K.moved hW.alike hK, hD9⟩, hS.F ht⟩) hS.2.2 dX3_chanceBy_69
        · skip
          have zh_14 : ¬ p1.toInt = 0 := z_ne h_14
          refine lv_ldc2 (v := 10000000000) hx hb hown (hts _ tw_5_150) dX3_chanceBy_59 ?_
          refine lv_goto (tgt := 66) hx hb dX3_chanceBy_62 (by decide) ?_
          refine lv_lload hx hb dX3_chanceBy_66 (lv_at hl 0 rfl) ?_
          refine lv_ldiv hx hb dX3_chanceBy_68 (fun q9 => by have := congrArg (fun v : Int64 => v.toInt) q9; simp at this; omega) ?_
          refine lv_topl (fun x_16 ex_16 => ?_)
          obtain ⟨hP9, hD9⟩ := sub2 hP hD (ws' := [(ob, .inr (3, [.ref oba, .ref ob_1])), (ob_1, .inl (k 2, 1000, .inr (.inl obg1)))]) [0, 1] (by decide +kernel) rfl
          exact W.lret (v := x_16) hx hb hr (fun tZ ht hW => ⟨⟨x_16, (), rfl, trivial, by rw [ht]; exact hP9, va_K.moved hW.alike hK, hD9⟩, hS.F ht⟩) hS.2.2 dX3_chanceBy_69
      · skip
        have zh_13 : r_11.toInt ≤ 0 := zL_ngt h_13 rfl rfl
        refine lv_lconst (v := 0) hx hb dX3_chanceBy_51 (by decide) ?_
        refine lv_goto (tgt := 69) hx hb dX3_chanceBy_52 (by decide) ?_
        obtain ⟨hP9, hD9⟩ := sub2 hP hD (ws' := [(ob, .inr (3, [.ref oba, .ref ob_1])), (ob_1, .inl (k 2, 1000, .inr (.inl obg1)))]) [0, 1] (by decide +kernel) rfl
        exact W.lret (v := 0) hx hb hr (fun tZ ht hW => ⟨⟨0, (), rfl, trivial, by rw [ht]; exact hP9, va_K.moved hW.alike hK, hD9⟩, hS.F ht⟩) hS.2.2 dX3_chanceBy_69
    · skip
      have zh_10 : L5l5.toInt < 1000 := z_nle h_10
      refine lv_lload_n hx hb dX3_chanceBy_19 rfl (lv_at hl 3 rfl) ?_
      refine lv_aload_n hx hb dX3_chanceBy_20 rfl (lv_at hl 0 rfl) ?_
      refine va_get (D := D) (ci := 3) (v := .ref ob_1) (C := RX3) (T := TX3) (N := 2) hx hb hts iT_X3 hown hK hP 0 rfl rfl 1 (by decide) (hts _ tw_2_164) (fun _ h9 => h9) rfl dX3_chanceBy_21 ?_
      refine lv_iload hx hb dX3_chanceBy_24 (lv_at hl 4 rfl) ?_
      refine va_lald hx hb hK hP 1 2 rfl rfl (z_in (by omega) (by omega)) dX3_chanceBy_26 ?_
      refine lv_topl (fun x_17 ex_17 => ?_)
      refine lv_ladd hx hb dX3_chanceBy_27 ?_
      refine lv_topl (fun x_18 ex_18 => ?_)
      refine lv_lstore_n (lv' := [(3, .long x_18), (0, .ref ob), (1, .int p0), (2, .int p1), (5, .int L5l5)]) hx hb dX3_chanceBy_28 rfl hl (by decide) rfl (fun ls hl => ?_)
      obtain ⟨x_19, ex_19⟩ : ∃ y : Int32, y = L5l5 + 1 := ⟨_, rfl⟩
      have zx_19 : x_19.toInt = L5l5.toInt + 1 := by rw [ex_19]; exact z_add rfl rfl (by omega) (by omega)
      refine lv_iinc (v := x_19) (lv' := [(5, .int x_19), (3, .long x_18), (0, .ref ob), (1, .int p0), (2, .int p1)]) hx hb dX3_chanceBy_29 hl (k := 4) rfl (by rw [ex_19]; rfl) (by decide) rfl (fun ls hl => ?_)
      refine lv_goto (tgt := 5) hx hb dX3_chanceBy_32 (by decide) ?_
      exact ih_1 _ _ _ _ (by omega) ⟨x_18, x_19, rfl, (show 0 ≤ x_19.toInt ∧ x_19.toInt ≤ 1000 from by omega), hP.sub (ws' := [(ob, .inr (3, [.ref oba, .ref ob_1])), (ob_1, .inl (k 2, 1000, .inr (.inl obg1)))]) [0, 1] rfl, hD.sub (ws' := [(ob, .inr (3, [.ref oba, .ref ob_1])), (ob_1, .inl (k 2, 1000, .inr (.inl obg1)))]) [0, 1] (by decide +kernel) rfl, hS, lv_sub hl [2, 3, 4, 1, 0] rfl⟩
set_option maxHeartbeats 4000000 in
set_option maxRecDepth 100000 in
theorem c_X3_leastMinute (l : Launch) (D : va_G) (k : Nat → ClassId) (ob : Nat) (p0 : Int32) (oba : Nat) (ob_1 : Nat) (obg1 : Nat → Int64) (sz : Nat) : Met l yX3_leastMinute (ww yX3_leastMinute cX3_leastMinute 5 (some .int)) ({ frames := 0, cells := 0, slots := 0, locals := 0 }) (Pre0 D k [(ob, .inr (3, [.ref oba, .ref ob_1])), (ob_1, .inl (k 2, 1000, .inr (.inl obg1)))] sz [.ref ob, .int p0]) (va_Qi (fun (r : Int32) (_ : Unit) => ((-1) ≤ r.toInt ∧ r.toInt ≤ 999)) (fun (_ : Unit) tZ => Bw D k (va_A [(ob, .inr (3, [.ref oba, .ref ob_1])), (ob_1, .inl (k 2, 1000, .inr (.inl obg1)))] sz) [(ob, .inr (3, [.ref oba, .ref ob_1])), (ob_1, .inl (k 2, 1000, .inr (.inl obg1)))] tZ) (va_A [(ob, .inr (3, [.ref oba, .ref ob_1])), (ob_1, .inl (k 2, 1000, .inr (.inl obg1)))] sz)) 0 0 (va_A [(ob, .inr (3, [.ref oba, .ref ob_1])), (ob_1, .inl (k 2, 1000, .inr (.inl obg1)))] sz) := by
  refine Met.ofW (cc := cX3_leastMinute) (maxL := 5) (ret := (some .int)) (by decide +kernel) rfl ?_
  intro p e s m args below meth c s₁ B hml hv
  obtain ⟨rfl, hsz, hP, hK, hD0, hN⟩ := hv
  have hx := B.exec
  have hb := B.bytes
  have hr := B.returns
  have hts : ∀ w ∈ TT, w.before _ s = true := fun w h => atoms_spec (ws := ww yX3_leastMinute cX3_leastMinute 5 (some .int)) B.pre w (List.mem_cons_of_mem _ h)
  have hown : s.vm.findClass RX3 = some m.cls := findClass_of_methodNamed B.named
  have hlocks := B.notSynchronized
  subst hsz
  have hD := hD0.self (sz := s.heap.size)
  generalize hAe : va_A [(ob, .inr (3, [.ref oba, .ref ob_1])), (ob_1, .inl (k 2, 1000, .inr (.inl obg1)))] s.heap.size = A at hD ⊢
  have hA : ∀ q : Nat, s.heap.size ≤ q → A q := fun q h => by rw [← hAe]; exact Or.inr h
  have hS : va_S A s.heap s.heap [] := va_S.rf
  have hl := lv_entry ([.ref ob, .int p0]) (n := 5) (Nat.le_of_ble_eq_true rfl)
  rw [lg_entry_eq]
  generalize (lg_sl ([.ref ob, .int p0]) ++ List.replicate (5 - (lg_sl ([.ref ob, .int p0])).length) Slot.unset).toArray = ls at hl ⊢
  have hl : lv_has ls 5 [(0, .ref ob), (1, .int p0)] := hl
  refine lv_lconst (v := 0) hx hb dX3_leastMinute_0 (by decide) ?_
  refine lv_lstore_n (lv' := [(2, .long 0), (0, .ref ob), (1, .int p0)]) hx hb dX3_leastMinute_1 rfl hl (by decide) rfl (fun ls hl => ?_)
  refine lv_iconst (v := 0) hx hb dX3_leastMinute_2 (by decide) ?_
  refine lv_istore (lv' := [(4, .int 0), (2, .long 0), (0, .ref ob), (1, .int p0)]) hx hb dX3_leastMinute_3 hl (by decide) rfl (fun ls hl => ?_)
  refine loop_r (Wg := fun H locs ls => W p l e _ s m _ below meth c H locs _ _ _ (F0 m 5 ls [])) (fun n9 H locs ls => ∃ (L5l2 : Int64) (L5l4 : Int32), n9 = (1000 - L5l4.toInt).toNat ∧ (0 ≤ L5l4.toInt ∧ L5l4.toInt ≤ 1000) ∧ va_P D vwCl [(ob, .inr (3, [.ref oba, .ref ob_1])), (ob_1, .inl (k 2, 1000, .inr (.inl obg1)))] H ∧ va_D A [(ob, .inr (3, [.ref oba, .ref ob_1])), (ob_1, .inl (k 2, 1000, .inr (.inl obg1)))] ∧ va_S A s.heap H locs ∧ lv_has ls 5 [(0, .ref ob), (1, .int p0), (2, .long L5l2), (4, .int L5l4)]) (fun n9 H locs ls hI ih_1 => ?_) _ _ _ _ ⟨0, 0, rfl, (show 0 ≤ 0 ∧ 0 ≤ 1000 from by omega), hP.sub (ws' := [(ob, .inr (3, [.ref oba, .ref ob_1])), (ob_1, .inl (k 2, 1000, .inr (.inl obg1)))]) [0, 1] rfl, hD.sub (ws' := [(ob, .inr (3, [.ref oba, .ref ob_1])), (ob_1, .inl (k 2, 1000, .inr (.inl obg1)))]) [0, 1] (by decide +kernel) rfl, hS, lv_sub hl [2, 3, 1, 0] rfl⟩
  clear hP hD hS hl
  obtain ⟨L5l2, L5l4, en_2, zL5l4, hP, hD, hS, hl⟩ := hI
  refine lv_iload hx hb dX3_leastMinute_5 (lv_at hl 3 rfl) ?_
  refine lv_sipush (v := 1000) hx hb dX3_leastMinute_7 (by decide) ?_
  refine lv_icmp_ge (tgt := 47) hx hb dX3_leastMinute_10 (by decide) (fun h_3 => ?_) (fun h_3 => ?_)
  · skip
    have zh_3 : 1000 ≤ L5l4.toInt := z_le h_3
    refine lv_iconst (v := (-1)) hx hb dX3_leastMinute_47 (by decide) ?_
    obtain ⟨hP9, hD9⟩ := sub2 hP hD (ws' := [(ob, .inr (3, [.ref oba, .ref ob_1])), (ob_1, .inl (k 2, 1000, .inr (.inl obg1)))]) [0, 1] (by decide +kernel) rfl
    exact W.iret (v := (-1)) hx hb hr (fun tZ ht hW => ⟨⟨(-1), (), rfl, (show (-1) ≤ (-1) ∧ (-1) ≤ 999 from by omega), by rw [ht]; exact hP9, va_K.moved hW.alike hK, hD9⟩, hS.F ht⟩) hS.2.2 dX3_leastMinute_48
  · skip
    have zh_3 : L5l4.toInt < 1000 := z_nle h_3
    refine lv_lload_n hx hb dX3_leastMinute_13 rfl (lv_at hl 2 rfl) ?_
    refine lv_aload_n hx hb dX3_leastMinute_14 rfl (lv_at hl 0 rfl) ?_
    refine va_get (D := D) (ci := 3) (v := .ref ob_1) (C := RX3) (T := TX3) (N := 2) hx hb hts iT_X3 hown hK hP 0 rfl rfl 1 (by decide) (hts _ tw_2_164) (fun _ h9 => h9) rfl dX3_leastMinute_15 ?_
    refine lv_iload hx hb dX3_leastMinute_18 (lv_at hl 3 rfl) ?_
    refine va_lald hx hb hK hP 1 2 rfl rfl (z_in (by omega) (by omega)) dX3_leastMinute_20 ?_
    refine lv_topl (fun x_4 ex_4 => ?_)
    refine lv_ladd hx hb dX3_leastMinute_21 ?_
    refine lv_topl (fun x_5 ex_5 => ?_)
    refine lv_lstore_n (lv' := [(2, .long x_5), (0, .ref ob), (1, .int p0), (4, .int L5l4)]) hx hb dX3_leastMinute_22 rfl hl (by decide) rfl (fun ls hl => ?_)
    refine lv_lload_n hx hb dX3_leastMinute_23 rfl (lv_at hl 0 rfl) ?_
    refine lv_ldc2 (v := 100) hx hb hown (hts _ tw_5_175) dX3_leastMinute_24 ?_
    refine lv_lmul hx hb dX3_leastMinute_27 ?_
    refine lv_topl (fun x_6 ex_6 => ?_)
    refine lv_ldc2 (v := 10000000000) hx hb hown (hts _ tw_5_150) dX3_leastMinute_28 ?_
    refine lv_iload_n hx hb dX3_leastMinute_31 rfl (lv_at hl 2 rfl) ?_
    refine lv_i2l (v := p0.toInt64) hx hb dX3_leastMinute_32 rfl ?_
    refine lv_lmul hx hb dX3_leastMinute_33 ?_
    refine lv_topl (fun x_7 ex_7 => ?_)
    have zrp0 := z_rng p0
    refine W.lcmp hx hb dX3_leastMinute_34 ?_
    refine lv_if_lt (tgt := 41) hx hb dX3_leastMinute_35 (by decide) (fun h_8 => ?_) (fun h_8 => ?_)
    · skip
      have zh_8 : x_6.toInt < x_7.toInt := zL_lt h_8 rfl rfl
      obtain ⟨x_9, ex_9⟩ : ∃ y : Int32, y = L5l4 + 1 := ⟨_, rfl⟩
      have zx_9 : x_9.toInt = L5l4.toInt + 1 := by rw [ex_9]; exact z_add rfl rfl (by omega) (by omega)
      refine lv_iinc (v := x_9) (lv' := [(4, .int x_9), (2, .long x_5), (0, .ref ob), (1, .int p0)]) hx hb dX3_leastMinute_41 hl (k := 3) rfl (by rw [ex_9]; rfl) (by decide) rfl (fun ls hl => ?_)
      refine lv_goto (tgt := 5) hx hb dX3_leastMinute_44 (by decide) ?_
      exact ih_1 _ _ _ _ (by omega) ⟨x_5, x_9, rfl, (show 0 ≤ x_9.toInt ∧ x_9.toInt ≤ 1000 from by omega), hP.sub (ws' := [(ob, .inr (3, [.ref oba, .ref ob_1])), (ob_1, .inl (k 2, 1000, .inr (.inl obg1)))]) [0, 1] rfl, hD.sub (ws' := [(ob, .inr (3, [.ref oba, .ref ob_1])), (ob_1, .inl (k 2, 1000, .inr (.inl obg1)))]) [0, 1] (by decide +kernel) rfl, hS, lv_sub hl [2, 3, 1, 0] rfl⟩
    · skip
      have zh_8 : x_7.toInt ≤ x_6.toInt := zL_nlt h_8 rfl rfl
      refine lv_iload hx hb dX3_leastMinute_38 (lv_at hl 3 rfl) ?_
      obtain ⟨hP9, hD9⟩ := sub2 hP hD (ws' := [(ob, .inr (3, [.ref oba, .ref ob_1])), (ob_1, .inl (k 2, 1000, .inr (.inl obg1)))]) [0, 1] (by decide +kernel) rfl
      exact W.iret (v := L5l4) hx hb hr (fun tZ ht hW => ⟨⟨L5l4, (), rfl, (show (-1) ≤ L5l4.toInt ∧ L5l4.toInt ≤ 999 from by omega), by rw [ht]; exact hP9, va_K.moved hW.alike hK, hD9⟩, hS.F ht⟩) hS.2.2 dX3_leastMinute_40
