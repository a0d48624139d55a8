set_option maxHeartbeats 4000000 in
set_option maxRecDepth 100000 in
theorem c_X3_weighLanes_0 (l : Launch) (D : va_G) (k : Nat → ClassId) (ob : Nat) (tn : Nat) (p1 : Int32) (p2 : Int32) (p3 : Int32) (p4 : Int64) (oba : Nat) (ob_1 : Nat) (oba_0 : Nat) (obav1 : Int32) (obav2 : Int32) (obag0 : Nat → Int32) (obg1 : Nat → Int64) (tnv0 : Int32) (tnv1 : Int32) (tnv2 : Int32) (tn_3 : Nat) (tn_4 : Nat) (tn_5 : Nat) (tn_6 : Nat) (tnv7 : Int32) (tnv8 : Int32) (tn_9 : Nat) (tn_10 : Nat) (tnv11 : Int32) (tn_12 : Nat) (tn_13 : Nat) (tn_14 : Nat) (tn_15 : Nat) (tnv16 : Int32) (tn_17 : Nat) (tn_18 : Nat) (tnt : Nat) (tng3 : Nat → Int32) (tng4 : Nat → Int32) (tng5 : Nat → Int32) (tng9 : Nat → Int32) (tng10 : Nat → Int32) (sz : Nat) (h_p1 : 0 ≤ p1.toInt ∧ p1.toInt ≤ 7) (hp_obag0_0 : PR 8 1 0 0 1000000 obag0) (h_tnv0 : 0 ≤ tnv0.toInt ∧ tnv0.toInt ≤ 8) (h_tnv2 : 0 ≤ tnv2.toInt ∧ tnv2.toInt ≤ 10) (h_tnv8 : 0 ≤ tnv8.toInt ∧ tnv8.toInt ≤ 4) (h_tnv11 : 0 ≤ tnv11.toInt ∧ tnv11.toInt ≤ 6) (h_tnv16 : 0 ≤ tnv16.toInt ∧ tnv16.toInt ≤ 2) (hp_tng3_0 : PR 10 1 0 0 7 tng3) (hp_tng4_0 : PR 10 1 0 0 7 tng4) (hp_tng5_0 : PR 10 1 0 0 60 tng5) (hp_tng9_0 : PR 4 1 0 0 7 tng9) (hp_tng10_0 : PR 4 1 0 0 99 tng10) : Met l yX3_weighLanes (ww yX3_weighLanes cX3_weighLanes 14 none) ({ frames := 4, cells := 0, slots := 0, locals := 100 }) (Pre0 D k [(ob, .inr (3, [.ref oba, .ref ob_1])), (oba, .inr (1, [.ref oba_0, .int obav1, .int obav2])), (oba_0, .inl (k 0, 8, .inl obag0)), (ob_1, .inl (k 2, 1000, .inr (.inl obg1))), (tn, .inr (10, [.int tnv0, .int tnv1, .int tnv2, .ref tn_3, .ref tn_4, .ref tn_5, .ref tn_6, .int tnv7, .int tnv8, .ref tn_9, .ref tn_10, .int tnv11, .ref tn_12, .ref tn_13, .ref tn_14, .ref tn_15, .int tnv16, .ref tn_17, .ref tn_18, .ref tnt])), (tn_3, .inl (k 0, 10, .inl tng3)), (tn_4, .inl (k 0, 10, .inl tng4)), (tn_5, .inl (k 0, 10, .inl tng5)), (tn_9, .inl (k 0, 4, .inl tng9)), (tn_10, .inl (k 0, 4, .inl tng10))] sz [.ref ob, .ref tn, .int p1, .int p2, .int p3, .long p4, .int 10]) (va_Qv (fun (u : Int32 × Int32 × (Nat → Int32) × (Nat → Int64)) => match u with | (obav1z, obav2z, obag0z, obg1z) => (PR 8 1 0 0 1000000 obag0z)) (fun (u : Int32 × Int32 × (Nat → Int32) × (Nat → Int64)) tZ => match u with | (obav1z, obav2z, obag0z, obg1z) => Bw D k (va_A [(ob, .inr (3, [.ref oba, .ref ob_1])), (oba, .inr (1, [.ref oba_0, .int obav1, .int obav2])), (oba_0, .inl (k 0, 8, .inl obag0)), (ob_1, .inl (k 2, 1000, .inr (.inl obg1))), (tn, .inr (10, [.int tnv0, .int tnv1, .int tnv2, .ref tn_3, .ref tn_4, .ref tn_5, .ref tn_6, .int tnv7, .int tnv8, .ref tn_9, .ref tn_10, .int tnv11, .ref tn_12, .ref tn_13, .ref tn_14, .ref tn_15, .int tnv16, .ref tn_17, .ref tn_18, .ref tnt])), (tn_3, .inl (k 0, 10, .inl tng3)), (tn_4, .inl (k 0, 10, .inl tng4)), (tn_5, .inl (k 0, 10, .inl tng5)), (tn_9, .inl (k 0, 4, .inl tng9)), (tn_10, .inl (k 0, 4, .inl tng10))] sz) [(ob, .inr (3, [.ref oba, .ref ob_1])), (oba, .inr (1, [.ref oba_0, .int obav1z, .int obav2z])), (oba_0, .inl (k 0, 8, .inl obag0z)), (ob_1, .inl (k 2, 1000, .inr (.inl obg1z))), (tn, .inr (10, [.int tnv0, .int tnv1, .int tnv2, .ref tn_3, .ref tn_4, .ref tn_5, .ref tn_6, .int tnv7, .int tnv8, .ref tn_9, .ref tn_10, .int tnv11, .ref tn_12, .ref tn_13, .ref tn_14, .ref tn_15, .int tnv16, .ref tn_17, .ref tn_18, .ref tnt])), (tn_3, .inl (k 0, 10, .inl tng3)), (tn_4, .inl (k 0, 10, .inl tng4)), (tn_5, .inl (k 0, 10, .inl tng5)), (tn_9, .inl (k 0, 4, .inl tng9)), (tn_10, .inl (k 0, 4, .inl tng10))] tZ) (va_A [(ob, .inr (3, [.ref oba, .ref ob_1])), (oba, .inr (1, [.ref oba_0, .int obav1, .int obav2])), (oba_0, .inl (k 0, 8, .inl obag0)), (ob_1, .inl (k 2, 1000, .inr (.inl obg1))), (tn, .inr (10, [.int tnv0, .int tnv1, .int tnv2, .ref tn_3, .ref tn_4, .ref tn_5, .ref tn_6, .int tnv7, .int tnv8, .ref tn_9, .ref tn_10, .int tnv11, .ref tn_12, .ref tn_13, .ref tn_14, .ref tn_15, .int tnv16, .ref tn_17, .ref tn_18, .ref tnt])), (tn_3, .inl (k 0, 10, .inl tng3)), (tn_4, .inl (k 0, 10, .inl tng4)), (tn_5, .inl (k 0, 10, .inl tng5)), (tn_9, .inl (k 0, 4, .inl tng9)), (tn_10, .inl (k 0, 4, .inl tng10))] sz)) 0 0 (va_A [(ob, .inr (3, [.ref oba, .ref ob_1])), (oba, .inr (1, [.ref oba_0, .int obav1, .int obav2])), (oba_0, .inl (k 0, 8, .inl obag0)), (ob_1, .inl (k 2, 1000, .inr (.inl obg1))), (tn, .inr (10, [.int tnv0, .int tnv1, .int tnv2, .ref tn_3, .ref tn_4, .ref tn_5, .ref tn_6, .int tnv7, .int tnv8, .ref tn_9, .ref tn_10, .int tnv11, .ref tn_12, .ref tn_13, .ref tn_14, .ref tn_15, .int tnv16, .ref tn_17, .ref tn_18, .ref tnt])), (tn_3, .inl (k 0, 10, .inl tng3)), (tn_4, .inl (k 0, 10, .inl tng4)), (tn_5, .inl (k 0, 10, .inl tng5)), (tn_9, .inl (k 0, 4, .inl tng9)), (tn_10, .inl (k 0, 4, .inl tng10))] sz) := by
  refine Met.ofW (cc := cX3_weighLanes) (maxL := 14) (ret := none) (by decide +kernel) rfl ?_
  intro p e s m args below meth c s₁ B hml hv
  obtain ⟨rfl, hsz, hP, hK, hD0, hN⟩ := hv
  have hx := B.exec
  have hb := B.bytes
  have hr := B.returns
  have hts : ∀ w ∈ TT, w.before _ s = true := fun w h => atoms_spec (ws := ww yX3_weighLanes cX3_weighLanes 14 none) B.pre w (List.mem_cons_of_mem _ h)
  have hown : s.vm.findClass RX3 = some m.cls := findClass_of_methodNamed B.named
  have hlocks := B.notSynchronized
  subst hsz
  have hD := hD0.self (sz := s.heap.size)
  generalize hAe : va_A [(ob, .inr (3, [.ref oba, .ref ob_1])), (oba, .inr (1, [.ref oba_0, .int obav1, .int obav2])), (oba_0, .inl (k 0, 8, .inl obag0)), (ob_1, .inl (k 2, 1000, .inr (.inl obg1))), (tn, .inr (10, [.int tnv0, .int tnv1, .int tnv2, .ref tn_3, .ref tn_4, .ref tn_5, .ref tn_6, .int tnv7, .int tnv8, .ref tn_9, .ref tn_10, .int tnv11, .ref tn_12, .ref tn_13, .ref tn_14, .ref tn_15, .int tnv16, .ref tn_17, .ref tn_18, .ref tnt])), (tn_3, .inl (k 0, 10, .inl tng3)), (tn_4, .inl (k 0, 10, .inl tng4)), (tn_5, .inl (k 0, 10, .inl tng5)), (tn_9, .inl (k 0, 4, .inl tng9)), (tn_10, .inl (k 0, 4, .inl tng10))] s.heap.size = A at hD ⊢
  have hA : ∀ q : Nat, s.heap.size ≤ q → A q := fun q h => by rw [← hAe]; exact Or.inr h
  have hS : va_S A s.heap s.heap [] := va_S.rf
  have hl := lv_entry ([.ref ob, .ref tn, .int p1, .int p2, .int p3, .long p4, .int 10]) (n := 14) (Nat.le_of_ble_eq_true rfl)
  rw [lg_entry_eq]
  generalize (lg_sl ([.ref ob, .ref tn, .int p1, .int p2, .int p3, .long p4, .int 10]) ++ List.replicate (14 - (lg_sl ([.ref ob, .ref tn, .int p1, .int p2, .int p3, .long p4, .int 10])).length) Slot.unset).toArray = ls at hl ⊢
  have hl : lv_has ls 14 [(0, .ref ob), (1, .ref tn), (2, .int p1), (3, .int p2), (4, .int p3), (5, .long p4), (7, .int 10)] := hl
  refine lv_aload_n hx hb dX3_weighLanes_0 rfl (lv_at hl 0 rfl) ?_
  refine va_get (D := D) (ci := 3) (v := .ref oba) (C := RX3) (T := TX3) (N := 2) hx hb hts iT_X3 hown hK hP 0 rfl rfl 0 (by decide) (hts _ tw_2_163) (fun _ h9 => h9) rfl dX3_weighLanes_1 ?_
  refine lv_aload_n hx hb dX3_weighLanes_4 rfl (lv_at hl 1 rfl) ?_
  refine lv_aload_n hx hb dX3_weighLanes_5 rfl (lv_at hl 1 rfl) ?_
  have hPc := hP.sub (ws' := [(tn, .inr (10, [.int tnv0, .int tnv1, .int tnv2, .ref tn_3, .ref tn_4, .ref tn_5, .ref tn_6, .int tnv7, .int tnv8, .ref tn_9, .ref tn_10, .int tnv11, .ref tn_12, .ref tn_13, .ref tn_14, .ref tn_15, .int tnv16, .ref tn_17, .ref tn_18, .ref tnt]))]) [4] rfl
  have hDc := hD.sub (ws' := [(tn, .inr (10, [.int tnv0, .int tnv1, .int tnv2, .ref tn_3, .ref tn_4, .ref tn_5, .ref tn_6, .int tnv7, .int tnv8, .ref tn_9, .ref tn_10, .int tnv11, .ref tn_12, .ref tn_13, .ref tn_14, .ref tn_15, .int tnv16, .ref tn_17, .ref tn_18, .ref tnt]))]) [4] (by decide) rfl
  have hFc := va_free (wc := [(tn, .inr (10, [.int tnv0, .int tnv1, .int tnv2, .ref tn_3, .ref tn_4, .ref tn_5, .ref tn_6, .int tnv7, .int tnv8, .ref tn_9, .ref tn_10, .int tnv11, .ref tn_12, .ref tn_13, .ref tn_14, .ref tn_15, .int tnv16, .ref tn_17, .ref tn_18, .ref tnt]))]) hD hS hA [4] rfl
  refine va_calli (va_runV (C := RX10) (As := []) (rest := [.ref tn, .ref oba]) ⟨hx, hb, hml, hown, hts⟩ (c_X10_openLanes l D k tn tnv0 tnv1 tnv2 tn_3 tn_4 tn_5 tn_6 tnv7 tnv8 tn_9 tn_10 tnv11 tn_12 tn_13 tn_14 tn_15 tnv16 tn_17 tn_18 tnt s.heap.size (show 0 ≤ tnv0.toInt ∧ tnv0.toInt ≤ 8 from by omega) (show 0 ≤ tnv2.toInt ∧ tnv2.toInt ≤ 10 from by omega) (show 0 ≤ tnv8.toInt ∧ tnv8.toInt ≤ 4 from by omega) (show 0 ≤ tnv11.toInt ∧ tnv11.toInt ≤ 6 from by omega) (show 0 ≤ tnv16.toInt ∧ tnv16.toInt ≤ 2 from by omega)) (cwV 0 hts (gV tw_5_155 tw_3_180 tw_3_181 tw_1_3 tw_3_182) rfl rfl rfl hdV_X10_openLanes ⟨Nat.le_of_ble_eq_true rfl, Nat.le_of_ble_eq_true rfl⟩) (cz_V hK hPc hDc hN (ci := 10) (q0 := 0) rfl rfl []) rfl rfl hl.1 rfl (lv_room (Nat.le_of_ble_eq_true rfl)) dX3_weighLanes_6 ⟨Nat.le_of_ble_eq_true rfl, Nat.le_of_ble_eq_true rfl⟩) hS (fun q _ h => hFc q h) hFc (fun r_1 uZ tZ H1 locs ht hvm hw hB hz1 hk1 hS => ?_)
  obtain ⟨hP1, hK1, hD1⟩ := hB
  rw [ht] at hP1
  obtain ⟨hP, hD⟩ := va_join (wr := [(ob, .inr (3, [.ref oba, .ref ob_1])), (oba, .inr (1, [.ref oba_0, .int obav1, .int obav2])), (oba_0, .inl (k 0, 8, .inl obag0)), (ob_1, .inl (k 2, 1000, .inr (.inl obg1))), (tn_3, .inl (k 0, 10, .inl tng3)), (tn_4, .inl (k 0, 10, .inl tng4)), (tn_5, .inl (k 0, 10, .inl tng5)), (tn_9, .inl (k 0, 4, .inl tng9)), (tn_10, .inl (k 0, 4, .inl tng10))]) (w1 := [(tn, .inr (10, [.int tnv0, .int tnv1, .int tnv2, .ref tn_3, .ref tn_4, .ref tn_5, .ref tn_6, .int tnv7, .int tnv8, .ref tn_9, .ref tn_10, .int tnv11, .ref tn_12, .ref tn_13, .ref tn_14, .ref tn_15, .int tnv16, .ref tn_17, .ref tn_18, .ref tnt]))]) hP hD [4] [0, 1, 2, 3, 5, 6, 7, 8, 9] rfl rfl (by decide) (by decide) hk1 hFc hP1 hD1
  clear hK1 hP1 hD1 hPc hDc hFc
  clear hk1 hz1 ht hvm
  have hP : va_P D vwCl [(ob, .inr (3, [.ref oba, .ref ob_1])), (oba, .inr (1, [.ref oba_0, .int obav1, .int obav2])), (oba_0, .inl (k 0, 8, .inl obag0)), (ob_1, .inl (k 2, 1000, .inr (.inl obg1))), (tn_3, .inl (k 0, 10, .inl tng3)), (tn_4, .inl (k 0, 10, .inl tng4)), (tn_5, .inl (k 0, 10, .inl tng5)), (tn_9, .inl (k 0, 4, .inl tng9)), (tn_10, .inl (k 0, 4, .inl tng10)), (tn, .inr (10, [.int tnv0, .int tnv1, .int tnv2, .ref tn_3, .ref tn_4, .ref tn_5, .ref tn_6, .int tnv7, .int tnv8, .ref tn_9, .ref tn_10, .int tnv11, .ref tn_12, .ref tn_13, .ref tn_14, .ref tn_15, .int tnv16, .ref tn_17, .ref tn_18, .ref tnt]))] H1 := hP
  have hD : va_D A [(ob, .inr (3, [.ref oba, .ref ob_1])), (oba, .inr (1, [.ref oba_0, .int obav1, .int obav2])), (oba_0, .inl (k 0, 8, .inl obag0)), (ob_1, .inl (k 2, 1000, .inr (.inl obg1))), (tn_3, .inl (k 0, 10, .inl tng3)), (tn_4, .inl (k 0, 10, .inl tng4)), (tn_5, .inl (k 0, 10, .inl tng5)), (tn_9, .inl (k 0, 4, .inl tng9)), (tn_10, .inl (k 0, 4, .inl tng10)), (tn, .inr (10, [.int tnv0, .int tnv1, .int tnv2, .ref tn_3, .ref tn_4, .ref tn_5, .ref tn_6, .int tnv7, .int tnv8, .ref tn_9, .ref tn_10, .int tnv11, .ref tn_12, .ref tn_13, .ref tn_14, .ref tn_15, .int tnv16, .ref tn_17, .ref tn_18, .ref tnt]))] := hD
  generalize H1 = H at hP hS ⊢
  have hw_2 : (0 ≤ r_1.toInt ∧ r_1.toInt ≤ 1023) := hw
  have hw_3 := hw_2
  clear hw
  refine lv_iload hx hb dX3_weighLanes_9 (lv_at hl 4 rfl) ?_
  have hPc := hP.sub (ws' := [(oba, .inr (1, [.ref oba_0, .int obav1, .int obav2])), (oba_0, .inl (k 0, 8, .inl obag0)), (tn, .inr (10, [.int tnv0, .int tnv1, .int tnv2, .ref tn_3, .ref tn_4, .ref tn_5, .ref tn_6, .int tnv7, .int tnv8, .ref tn_9, .ref tn_10, .int tnv11, .ref tn_12, .ref tn_13, .ref tn_14, .ref tn_15, .int tnv16, .ref tn_17, .ref tn_18, .ref tnt])), (tn_3, .inl (k 0, 10, .inl tng3)), (tn_4, .inl (k 0, 10, .inl tng4)), (tn_5, .inl (k 0, 10, .inl tng5)), (tn_9, .inl (k 0, 4, .inl tng9)), (tn_10, .inl (k 0, 4, .inl tng10))]) [1, 2, 9, 4, 5, 6, 7, 8] rfl
  have hDc := hD.sub (ws' := [(oba, .inr (1, [.ref oba_0, .int obav1, .int obav2])), (oba_0, .inl (k 0, 8, .inl obag0)), (tn, .inr (10, [.int tnv0, .int tnv1, .int tnv2, .ref tn_3, .ref tn_4, .ref tn_5, .ref tn_6, .int tnv7, .int tnv8, .ref tn_9, .ref tn_10, .int tnv11, .ref tn_12, .ref tn_13, .ref tn_14, .ref tn_15, .int tnv16, .ref tn_17, .ref tn_18, .ref tnt])), (tn_3, .inl (k 0, 10, .inl tng3)), (tn_4, .inl (k 0, 10, .inl tng4)), (tn_5, .inl (k 0, 10, .inl tng5)), (tn_9, .inl (k 0, 4, .inl tng9)), (tn_10, .inl (k 0, 4, .inl tng10))]) [1, 2, 9, 4, 5, 6, 7, 8] (by decide) rfl
  have hFc := va_free (wc := [(oba, .inr (1, [.ref oba_0, .int obav1, .int obav2])), (oba_0, .inl (k 0, 8, .inl obag0)), (tn, .inr (10, [.int tnv0, .int tnv1, .int tnv2, .ref tn_3, .ref tn_4, .ref tn_5, .ref tn_6, .int tnv7, .int tnv8, .ref tn_9, .ref tn_10, .int tnv11, .ref tn_12, .ref tn_13, .ref tn_14, .ref tn_15, .int tnv16, .ref tn_17, .ref tn_18, .ref tnt])), (tn_3, .inl (k 0, 10, .inl tng3)), (tn_4, .inl (k 0, 10, .inl tng4)), (tn_5, .inl (k 0, 10, .inl tng5)), (tn_9, .inl (k 0, 4, .inl tng9)), (tn_10, .inl (k 0, 4, .inl tng10))]) hD hS hA [1, 2, 9, 4, 5, 6, 7, 8] rfl
  refine va_callv (va_runV (C := RX1) (As := [.ref tn, .int r_1, .int p3]) (rest := []) ⟨hx, hb, hml, hown, hts⟩ (c_X1_fall l D k oba tn r_1 p3 oba_0 obav1 obav2 obag0 tnv0 tnv1 tnv2 tn_3 tn_4 tn_5 tn_6 tnv7 tnv8 tn_9 tn_10 tnv11 tn_12 tn_13 tn_14 tn_15 tnv16 tn_17 tn_18 tnt tng3 tng4 tng5 tng9 tng10 H.size hp_obag0_0 (show 0 ≤ tnv0.toInt ∧ tnv0.toInt ≤ 8 from by omega) (show 0 ≤ tnv2.toInt ∧ tnv2.toInt ≤ 10 from by omega) (show 0 ≤ tnv8.toInt ∧ tnv8.toInt ≤ 4 from by omega) (show 0 ≤ tnv11.toInt ∧ tnv11.toInt ≤ 6 from by omega) (show 0 ≤ tnv16.toInt ∧ tnv16.toInt ≤ 2 from by omega) hp_tng3_0 hp_tng4_0 hp_tng5_0 hp_tng9_0 hp_tng10_0) (cwV 3 hts (gV tw_5_156 tw_3_184 tw_3_185 tw_1_6 tw_3_186) rfl rfl rfl hdV_X1_fall ⟨Nat.le_of_ble_eq_true rfl, Nat.le_of_ble_eq_true rfl⟩) (cz_V hK hPc hDc hN (ci := 1) (q0 := 0) rfl rfl [.ref tn, .int r_1, .int p3]) rfl rfl hl.1 rfl (lv_room (Nat.le_of_ble_eq_true rfl)) dX3_weighLanes_11 ⟨Nat.le_of_ble_eq_true rfl, Nat.le_of_ble_eq_true rfl⟩) hS (fun q _ h => hFc q h) hFc (fun uZ tZ H1 locs ht hvm hw hB hz1 hk1 hS => ?_)
  obtain ⟨o_5, o_6, o_7⟩ := uZ
  obtain ⟨hP1, hK1, hD1⟩ := hB
  rw [ht] at hP1
  obtain ⟨hP, hD⟩ := va_join (wr := [(ob, .inr (3, [.ref oba, .ref ob_1])), (ob_1, .inl (k 2, 1000, .inr (.inl obg1)))]) (w1 := [(oba, .inr (1, [.ref oba_0, .int o_5, .int o_6])), (oba_0, .inl (k 0, 8, .inl o_7)), (tn, .inr (10, [.int tnv0, .int tnv1, .int tnv2, .ref tn_3, .ref tn_4, .ref tn_5, .ref tn_6, .int tnv7, .int tnv8, .ref tn_9, .ref tn_10, .int tnv11, .ref tn_12, .ref tn_13, .ref tn_14, .ref tn_15, .int tnv16, .ref tn_17, .ref tn_18, .ref tnt])), (tn_3, .inl (k 0, 10, .inl tng3)), (tn_4, .inl (k 0, 10, .inl tng4)), (tn_5, .inl (k 0, 10, .inl tng5)), (tn_9, .inl (k 0, 4, .inl tng9)), (tn_10, .inl (k 0, 4, .inl tng10))]) hP hD [1, 2, 9, 4, 5, 6, 7, 8] [0, 3] rfl rfl (by decide) (by decide) hk1 hFc hP1 hD1
  clear hK1 hP1 hD1 hPc hDc hFc
  clear hk1 hz1 ht hvm
  have hP : va_P D vwCl [(ob, .inr (3, [.ref oba, .ref ob_1])), (ob_1, .inl (k 2, 1000, .inr (.inl obg1))), (oba, .inr (1, [.ref oba_0, .int o_5, .int o_6])), (oba_0, .inl (k 0, 8, .inl o_7)), (tn, .inr (10, [.int tnv0, .int tnv1, .int tnv2, .ref tn_3, .ref tn_4, .ref tn_5, .ref tn_6, .int tnv7, .int tnv8, .ref tn_9, .ref tn_10, .int tnv11, .ref tn_12, .ref tn_13, .ref tn_14, .ref tn_15, .int tnv16, .ref tn_17, .ref tn_18, .ref tnt])), (tn_3, .inl (k 0, 10, .inl tng3)), (tn_4, .inl (k 0, 10, .inl tng4)), (tn_5, .inl (k 0, 10, .inl tng5)), (tn_9, .inl (k 0, 4, .inl tng9)), (tn_10, .inl (k 0, 4, .inl tng10))] H1 := hP
  have hD : va_D A [(ob, .inr (3, [.ref oba, .ref ob_1])), (ob_1, .inl (k 2, 1000, .inr (.inl obg1))), (oba, .inr (1, [.ref oba_0, .int o_5, .int o_6])), (oba_0, .inl (k 0, 8, .inl o_7)), (tn, .inr (10, [.int tnv0, .int tnv1, .int tnv2, .ref tn_3, .ref tn_4, .ref tn_5, .ref tn_6, .int tnv7, .int tnv8, .ref tn_9, .ref tn_10, .int tnv11, .ref tn_12, .ref tn_13, .ref tn_14, .ref tn_15, .int tnv16, .ref tn_17, .ref tn_18, .ref tnt])), (tn_3, .inl (k 0, 10, .inl tng3)), (tn_4, .inl (k 0, 10, .inl tng4)), (tn_5, .inl (k 0, 10, .inl tng5)), (tn_9, .inl (k 0, 4, .inl tng9)), (tn_10, .inl (k 0, 4, .inl tng10))] := hD
  generalize H1 = H at hP hS ⊢
  have hw_8 : (PR 8 1 0 0 1000000 o_7) := hw
  have hw_9 := hw_8
  clear hw
  refine lv_aload_n hx hb dX3_weighLanes_14 rfl (lv_at hl 0 rfl) ?_
  refine va_get (D := D) (ci := 3) (v := .ref oba) (C := RX3) (T := TX3) (N := 2) hx hb hts iT_X3 hown hK hP 0 rfl rfl 0 (by decide) (hts _ tw_2_163) (fun _ h9 => h9) rfl dX3_weighLanes_15 ?_
  refine va_get (D := D) (ci := 1) (v := .ref oba_0) (C := RX1) (T := TX1) (N := 3) hx hb hts iT_X1 hown hK hP 2 rfl rfl 0 (by decide) (hts _ tw_2_21) (fun _ h9 => h9) rfl dX3_weighLanes_18 ?_
  refine lv_iload_n hx hb dX3_weighLanes_21 rfl (lv_at hl 2 rfl) ?_
  refine va_iald hx hb hK hP 3 0 rfl rfl (z_in (by omega) (by omega)) dX3_weighLanes_22 ?_
  refine lv_topi (fun x_10 ex_10 => ?_)
  have zx_10r0 : 0 ≤ x_10.toInt ∧ x_10.toInt ≤ 1000000 := by rw [ex_10]; exact PR.ld hw_9 (by omega) (by omega) (by omega)
  refine lv_istore (lv' := [(8, .int x_10), (0, .ref ob), (1, .ref tn), (2, .int p1), (3, .int p2), (4, .int p3), (5, .long p4), (7, .int 10)]) hx hb dX3_weighLanes_23 hl (by decide) rfl (fun ls hl => ?_)
  refine lv_iload hx hb dX3_weighLanes_25 (lv_at hl 0 rfl) ?_
  refine lv_sipush (v := 1000) hx hb dX3_weighLanes_27 (by decide) ?_
  refine lv_icmp_lt (tgt := 34) hx hb dX3_weighLanes_30 (by decide) (fun h_11 => ?_) (fun h_11 => ?_)
  · skip
    have zh_11 : x_10.toInt < 1000 := z_lt h_11
    refine lv_aload_n hx hb dX3_weighLanes_34 rfl (lv_at hl 1 rfl) ?_
    refine va_get (D := D) (ci := 3) (v := .ref oba) (C := RX3) (T := TX3) (N := 2) hx hb hts iT_X3 hown hK hP 0 rfl rfl 0 (by decide) (hts _ tw_2_163) (fun _ h9 => h9) rfl dX3_weighLanes_35 ?_
    refine lv_aload_n hx hb dX3_weighLanes_38 rfl (lv_at hl 2 rfl) ?_
    refine lv_iload_n hx hb dX3_weighLanes_39 rfl (lv_at hl 3 rfl) ?_
    have hPc := hP.sub (ws' := [(oba, .inr (1, [.ref oba_0, .int o_5, .int o_6])), (oba_0, .inl (k 0, 8, .inl o_7)), (tn, .inr (10, [.int tnv0, .int tnv1, .int tnv2, .ref tn_3, .ref tn_4, .ref tn_5, .ref tn_6, .int tnv7, .int tnv8, .ref tn_9, .ref tn_10, .int tnv11, .ref tn_12, .ref tn_13, .ref tn_14, .ref tn_15, .int tnv16, .ref tn_17, .ref tn_18, .ref tnt])), (tn_3, .inl (k 0, 10, .inl tng3)), (tn_4, .inl (k 0, 10, .inl tng4)), (tn_5, .inl (k 0, 10, .inl tng5)), (tn_9, .inl (k 0, 4, .inl tng9)), (tn_10, .inl (k 0, 4, .inl tng10))]) [2, 3, 4, 5, 6, 7, 8, 9] rfl
    have hDc := hD.sub (ws' := [(oba, .inr (1, [.ref oba_0, .int o_5, .int o_6])), (oba_0, .inl (k 0, 8, .inl o_7)), (tn, .inr (10, [.int tnv0, .int tnv1, .int tnv2, .ref tn_3, .ref tn_4, .ref tn_5, .ref tn_6, .int tnv7, .int tnv8, .ref tn_9, .ref tn_10, .int tnv11, .ref tn_12, .ref tn_13, .ref tn_14, .ref tn_15, .int tnv16, .ref tn_17, .ref tn_18, .ref tnt])), (tn_3, .inl (k 0, 10, .inl tng3)), (tn_4, .inl (k 0, 10, .inl tng4)), (tn_5, .inl (k 0, 10, .inl tng5)), (tn_9, .inl (k 0, 4, .inl tng9)), (tn_10, .inl (k 0, 4, .inl tng10))]) [2, 3, 4, 5, 6, 7, 8, 9] (by decide) rfl
    have hFc := va_free (wc := [(oba, .inr (1, [.ref oba_0, .int o_5, .int o_6])), (oba_0, .inl (k 0, 8, .inl o_7)), (tn, .inr (10, [.int tnv0, .int tnv1, .int tnv2, .ref tn_3, .ref tn_4, .ref tn_5, .ref tn_6, .int tnv7, .int tnv8, .ref tn_9, .ref tn_10, .int tnv11, .ref tn_12, .ref tn_13, .ref tn_14, .ref tn_15, .int tnv16, .ref tn_17, .ref tn_18, .ref tnt])), (tn_3, .inl (k 0, 10, .inl tng3)), (tn_4, .inl (k 0, 10, .inl tng4)), (tn_5, .inl (k 0, 10, .inl tng5)), (tn_9, .inl (k 0, 4, .inl tng9)), (tn_10, .inl (k 0, 4, .inl tng10))]) hD hS hA [2, 3, 4, 5, 6, 7, 8, 9] rfl
    refine va_calli (va_runV (C := RX1) (As := [.ref tn, .int p1]) (rest := []) ⟨hx, hb, hml, hown, hts⟩ (c_X1_wayTo l D k oba tn p1 oba_0 o_5 o_6 o_7 tnv0 tnv1 tnv2 tn_3 tn_4 tn_5 tn_6 tnv7 tnv8 tn_9 tn_10 tnv11 tn_12 tn_13 tn_14 tn_15 tnv16 tn_17 tn_18 tnt tng3 tng4 tng5 tng9 tng10 H.size (show 0 ≤ p1.toInt ∧ p1.toInt ≤ 7 from by omega) hw_9 (show 0 ≤ tnv0.toInt ∧ tnv0.toInt ≤ 8 from by omega) (show 0 ≤ tnv2.toInt ∧ tnv2.toInt ≤ 10 from by omega) (show 0 ≤ tnv8.toInt ∧ tnv8.toInt ≤ 4 from by omega) (show 0 ≤ tnv11.toInt ∧ tnv11.toInt ≤ 6 from by omega) (show 0 ≤ tnv16.toInt ∧ tnv16.toInt ≤ 2 from by omega) hp_tng3_0 hp_tng4_0 hp_tng5_0 hp_tng9_0 hp_tng10_0) (cwV 2 hts (gV tw_5_157 tw_4_96 tw_4_97 tw_1_6 tw_4_98) rfl rfl rfl hdV_X1_wayTo ⟨Nat.le_of_ble_eq_true rfl, Nat.le_of_ble_eq_true rfl⟩) (cz_V hK hPc hDc hN (ci := 1) (q0 := 0) rfl rfl [.ref tn, .int p1]) rfl rfl hl.1 rfl (lv_room (Nat.le_of_ble_eq_true rfl)) dX3_weighLanes_40 ⟨Nat.le_of_ble_eq_true rfl, Nat.le_of_ble_eq_true rfl⟩) hS (fun q _ h => hFc q h) hFc (fun r_12 uZ tZ H1 locs ht hvm hw hB hz1 hk1 hS => ?_)
    obtain ⟨hP1, hK1, hD1⟩ := hB
    rw [ht] at hP1
    obtain ⟨hP, hD⟩ := va_join (wr := [(ob, .inr (3, [.ref oba, .ref ob_1])), (ob_1, .inl (k 2, 1000, .inr (.inl obg1)))]) (w1 := [(oba, .inr (1, [.ref oba_0, .int o_5, .int o_6])), (oba_0, .inl (k 0, 8, .inl o_7)), (tn, .inr (10, [.int tnv0, .int tnv1, .int tnv2, .ref tn_3, .ref tn_4, .ref tn_5, .ref tn_6, .int tnv7, .int tnv8, .ref tn_9, .ref tn_10, .int tnv11, .ref tn_12, .ref tn_13, .ref tn_14, .ref tn_15, .int tnv16, .ref tn_17, .ref tn_18, .ref tnt])), (tn_3, .inl (k 0, 10, .inl tng3)), (tn_4, .inl (k 0, 10, .inl tng4)), (tn_5, .inl (k 0, 10, .inl tng5)), (tn_9, .inl (k 0, 4, .inl tng9)), (tn_10, .inl (k 0, 4, .inl tng10))]) hP hD [2, 3, 4, 5, 6, 7, 8, 9] [0, 1] rfl rfl (by decide) (by decide) hk1 hFc hP1 hD1
    clear hK1 hP1 hD1 hPc hDc hFc
    clear hk1 hz1 ht hvm
    have hP : va_P D vwCl [(ob, .inr (3, [.ref oba, .ref ob_1])), (ob_1, .inl (k 2, 1000, .inr (.inl obg1))), (oba, .inr (1, [.ref oba_0, .int o_5, .int o_6])), (oba_0, .inl (k 0, 8, .inl o_7)), (tn, .inr (10, [.int tnv0, .int tnv1, .int tnv2, .ref tn_3, .ref tn_4, .ref tn_5, .ref tn_6, .int tnv7, .int tnv8, .ref tn_9, .ref tn_10, .int tnv11, .ref tn_12, .ref tn_13, .ref tn_14, .ref tn_15, .int tnv16, .ref tn_17, .ref tn_18, .ref tnt])), (tn_3, .inl (k 0, 10, .inl tng3)), (tn_4, .inl (k 0, 10, .inl tng4)), (tn_5, .inl (k 0, 10, .inl tng5)), (tn_9, .inl (k 0, 4, .inl tng9)), (tn_10, .inl (k 0, 4, .inl tng10))] H1 := hP
    have hD : va_D A [(ob, .inr (3, [.ref oba, .ref ob_1])), (ob_1, .inl (k 2, 1000, .inr (.inl obg1))), (oba, .inr (1, [.ref oba_0, .int o_5, .int o_6])), (oba_0, .inl (k 0, 8, .inl o_7)), (tn, .inr (10, [.int tnv0, .int tnv1, .int tnv2, .ref tn_3, .ref tn_4, .ref tn_5, .ref tn_6, .int tnv7, .int tnv8, .ref tn_9, .ref tn_10, .int tnv11, .ref tn_12, .ref tn_13, .ref tn_14, .ref tn_15, .int tnv16, .ref tn_17, .ref tn_18, .ref tnt])), (tn_3, .inl (k 0, 10, .inl tng3)), (tn_4, .inl (k 0, 10, .inl tng4)), (tn_5, .inl (k 0, 10, .inl tng5)), (tn_9, .inl (k 0, 4, .inl tng9)), (tn_10, .inl (k 0, 4, .inl tng10))] := hD
    generalize H1 = H at hP hS ⊢
    have hw_13 : (0 ≤ r_12.toInt ∧ r_12.toInt ≤ 1023) := hw
    have hw_14 := hw_13
    clear hw
    refine lv_iload_n hx hb dX3_weighLanes_43 rfl (lv_at hl 4 rfl) ?_
    refine lv_iconst (v := (-1)) hx hb dX3_weighLanes_44 (by decide) ?_
    refine lv_ixor hx hb dX3_weighLanes_45 ?_
    refine lv_topi (fun x_15 ex_15 => ?_)
    have zrp2 := z_rng p2
    refine lv_iand hx hb dX3_weighLanes_46 ?_
    refine lv_topi (fun x_16 ex_16 => ?_)
    have zrx_15 := z_rng x_15
    have zx_16 : 0 ≤ x_16.toInt ∧ x_16.toInt ≤ r_12.toInt := by rw [ex_16]; exact z_andL (by omega)
    refine lv_istore (lv' := [(9, .int x_16), (8, .int x_10), (0, .ref ob), (1, .ref tn), (2, .int p1), (3, .int p2), (4, .int p3), (5, .long p4), (7, .int 10)]) hx hb dX3_weighLanes_47 hl (by decide) rfl (fun ls hl => ?_)
    refine lv_iload hx hb dX3_weighLanes_49 (lv_at hl 0 rfl) ?_
    refine lv_iload hx hb dX3_weighLanes_51 (lv_at hl 0 rfl) ?_
    refine lv_ineg hx hb dX3_weighLanes_53 ?_
    refine lv_topi (fun x_17 ex_17 => ?_)
    refine lv_iand hx hb dX3_weighLanes_54 ?_
    refine lv_topi (fun x_18 ex_18 => ?_)
    have zrx_17 := z_rng x_17
    have zx_18 : 0 ≤ x_18.toInt ∧ x_18.toInt ≤ x_16.toInt := by rw [ex_18]; exact z_andL (by omega)
    refine lv_iconst (v := 1) hx hb dX3_weighLanes_55 (by decide) ?_
    refine lv_isub hx hb dX3_weighLanes_56 ?_
    refine lv_topi (fun x_19 ex_19 => ?_)
    have zx_19 : x_19.toInt = x_18.toInt - 1 := by rw [ex_19]; exact z_sub rfl rfl (by omega) (by omega)
    have hPc := hP.sub (ws' := []) [] rfl
    have hDc := hD.sub (ws' := []) [] (by decide) rfl
    have hFc := va_free (wc := []) hD hS hA [] rfl
    refine va_calli (va_runS (As := [.int x_19]) (rest := []) ⟨hx, hb, hml, hown, hts⟩ (c_J6_bitCount_0f7a4 l D k x_19 H.size) (va_cwS 1 hts (gS tw_5_158 tw_4_101 tw_1_20 tw_4_102) rfl rfl rfl hdS_J6_bitCount_0f7a4 ⟨Nat.le_of_ble_eq_true rfl, Nat.le_of_ble_eq_true rfl⟩) (cz_S hK hPc hDc hN [.int x_19]) rfl rfl hl.1 rfl (lv_room (Nat.le_of_ble_eq_true rfl)) dX3_weighLanes_57 ⟨Nat.le_of_ble_eq_true rfl, Nat.le_of_ble_eq_true rfl⟩) hS (fun q _ h => hFc q h) hFc (fun r_20 uZ tZ H1 locs ht hvm hw hB hz1 hk1 hS => ?_)
    obtain ⟨hP1, hK1, hD1⟩ := hB
    rw [ht] at hP1
    obtain ⟨hP, hD⟩ := va_join (wr := [(ob, .inr (3, [.ref oba, .ref ob_1])), (ob_1, .inl (k 2, 1000, .inr (.inl obg1))), (oba, .inr (1, [.ref oba_0, .int o_5, .int o_6])), (oba_0, .inl (k 0, 8, .inl o_7)), (tn, .inr (10, [.int tnv0, .int tnv1, .int tnv2, .ref tn_3, .ref tn_4, .ref tn_5, .ref tn_6, .int tnv7, .int tnv8, .ref tn_9, .ref tn_10, .int tnv11, .ref tn_12, .ref tn_13, .ref tn_14, .ref tn_15, .int tnv16, .ref tn_17, .ref tn_18, .ref tnt])), (tn_3, .inl (k 0, 10, .inl tng3)), (tn_4, .inl (k 0, 10, .inl tng4)), (tn_5, .inl (k 0, 10, .inl tng5)), (tn_9, .inl (k 0, 4, .inl tng9)), (tn_10, .inl (k 0, 4, .inl tng10))]) (w1 := []) hP hD [] [0, 1, 2, 3, 4, 5, 6, 7, 8, 9] rfl rfl (by decide) (by decide) hk1 hFc hP1 hD1
    clear hK1 hP1 hD1 hPc hDc hFc
    clear hk1 hz1 ht hvm
    have hP : va_P D vwCl [(ob, .inr (3, [.ref oba, .ref ob_1])), (ob_1, .inl (k 2, 1000, .inr (.inl obg1))), (oba, .inr (1, [.ref oba_0, .int o_5, .int o_6])), (oba_0, .inl (k 0, 8, .inl o_7)), (tn, .inr (10, [.int tnv0, .int tnv1, .int tnv2, .ref tn_3, .ref tn_4, .ref tn_5, .ref tn_6, .int tnv7, .int tnv8, .ref tn_9, .ref tn_10, .int tnv11, .ref tn_12, .ref tn_13, .ref tn_14, .ref tn_15, .int tnv16, .ref tn_17, .ref tn_18, .ref tnt])), (tn_3, .inl (k 0, 10, .inl tng3)), (tn_4, .inl (k 0, 10, .inl tng4)), (tn_5, .inl (k 0, 10, .inl tng5)), (tn_9, .inl (k 0, 4, .inl tng9)), (tn_10, .inl (k 0, 4, .inl tng10))] H1 := hP
    have hD : va_D A [(ob, .inr (3, [.ref oba, .ref ob_1])), (ob_1, .inl (k 2, 1000, .inr (.inl obg1))), (oba, .inr (1, [.ref oba_0, .int o_5, .int o_6])), (oba_0, .inl (k 0, 8, .inl o_7)), (tn, .inr (10, [.int tnv0, .int tnv1, .int tnv2, .ref tn_3, .ref tn_4, .ref tn_5, .ref tn_6, .int tnv7, .int tnv8, .ref tn_9, .ref tn_10, .int tnv11, .ref tn_12, .ref tn_13, .ref tn_14, .ref tn_15, .int tnv16, .ref tn_17, .ref tn_18, .ref tnt])), (tn_3, .inl (k 0, 10, .inl tng3)), (tn_4, .inl (k 0, 10, .inl tng4)), (tn_5, .inl (k 0, 10, .inl tng5)), (tn_9, .inl (k 0, 4, .inl tng9)), (tn_10, .inl (k 0, 4, .inl tng10))] := hD
    generalize H1 = H at hP hS ⊢
    have hw_21 : (0 ≤ r_20.toInt ∧ r_20.toInt ≤ 63) := hw
    have hw_22 := hw_21
    clear hw
    refine lv_istore (lv' := [(10, .int r_20), (9, .int x_16), (8, .int x_10), (0, .ref ob), (1, .ref tn), (2, .int p1), (3, .int p2), (4, .int p3), (5, .long p4), (7, .int 10)]) hx hb dX3_weighLanes_60 hl (by decide) rfl (fun ls hl => ?_)
    refine lv_iload hx hb dX3_weighLanes_62 (lv_at hl 1 rfl) ?_
    refine lv_if_eq (tgt := 81) hx hb dX3_weighLanes_64 (by decide) (fun h_23 => ?_) (fun h_23 => ?_)
    · skip
      have zh_23 : x_16.toInt = 0 := z_eq h_23
      refine lv_aload_n hx hb dX3_weighLanes_81 rfl (lv_at hl 3 rfl) ?_
      refine va_get (D := D) (ci := 3) (v := .ref ob_1) (C := RX3) (T := TX3) (N := 2) hx hb hts iT_X3 hown hK hP 0 rfl rfl 1 (by decide) (hts _ tw_2_164) (fun _ h9 => h9) rfl dX3_weighLanes_82 ?_
      refine lv_iload hx hb dX3_weighLanes_85 (lv_at hl 2 rfl) ?_
      refine lv_dup2_11 hx hb dX3_weighLanes_87 rfl rfl ?_
      refine va_lald hx hb hK hP 1 2 rfl rfl (z_in (by omega) (by omega)) dX3_weighLanes_88 ?_
      refine lv_topl (fun x_24 ex_24 => ?_)
      refine lv_lload hx hb dX3_weighLanes_89 (lv_at hl 8 rfl) ?_
      refine lv_ladd hx hb dX3_weighLanes_91 ?_
      refine lv_topl (fun x_25 ex_25 => ?_)
      refine va_last hx hb hK hP hD hS 1 2 rfl rfl (z_in (by omega) (by omega)) dX3_weighLanes_92 (fun H locs hP hD hS => ?_)
      obtain ⟨g_26, eg_26⟩ : ∃ z : Nat → Int64, vp_updL obg1 x_10.toNatClampNeg x_25 = z := ⟨_, rfl⟩
      have hP : va_P D vwCl [(ob, .inr (3, [.ref oba, .ref ob_1])), (ob_1, .inl (k 2, 1000, .inr (.inl (vp_updL obg1 x_10.toNatClampNeg x_25)))), (oba, .inr (1, [.ref oba_0, .int o_5, .int o_6])), (oba_0, .inl (k 0, 8, .inl o_7)), (tn, .inr (10, [.int tnv0, .int tnv1, .int tnv2, .ref tn_3, .ref tn_4, .ref tn_5, .ref tn_6, .int tnv7, .int tnv8, .ref tn_9, .ref tn_10, .int tnv11, .ref tn_12, .ref tn_13, .ref tn_14, .ref tn_15, .int tnv16, .ref tn_17, .ref tn_18, .ref tnt])), (tn_3, .inl (k 0, 10, .inl tng3)), (tn_4, .inl (k 0, 10, .inl tng4)), (tn_5, .inl (k 0, 10, .inl tng5)), (tn_9, .inl (k 0, 4, .inl tng9)), (tn_10, .inl (k 0, 4, .inl tng10))] H := hP
      have hD : va_D A [(ob, .inr (3, [.ref oba, .ref ob_1])), (ob_1, .inl (k 2, 1000, .inr (.inl (vp_updL obg1 x_10.toNatClampNeg x_25)))), (oba, .inr (1, [.ref oba_0, .int o_5, .int o_6])), (oba_0, .inl (k 0, 8, .inl o_7)), (tn, .inr (10, [.int tnv0, .int tnv1, .int tnv2, .ref tn_3, .ref tn_4, .ref tn_5, .ref tn_6, .int tnv7, .int tnv8, .ref tn_9, .ref tn_10, .int tnv11, .ref tn_12, .ref tn_13, .ref tn_14, .ref tn_15, .int tnv16, .ref tn_17, .ref tn_18, .ref tnt])), (tn_3, .inl (k 0, 10, .inl tng3)), (tn_4, .inl (k 0, 10, .inl tng4)), (tn_5, .inl (k 0, 10, .inl tng5)), (tn_9, .inl (k 0, 4, .inl tng9)), (tn_10, .inl (k 0, 4, .inl tng10))] := hD
      rw [eg_26] at hP hD
      have hP9 := hP.sub (ws' := [(ob, .inr (3, [.ref oba, .ref ob_1])), (oba, .inr (1, [.ref oba_0, .int o_5, .int o_6])), (oba_0, .inl (k 0, 8, .inl o_7)), (ob_1, .inl (k 2, 1000, .inr (.inl g_26))), (tn, .inr (10, [.int tnv0, .int tnv1, .int tnv2, .ref tn_3, .ref tn_4, .ref tn_5, .ref tn_6, .int tnv7, .int tnv8, .ref tn_9, .ref tn_10, .int tnv11, .ref tn_12, .ref tn_13, .ref tn_14, .ref tn_15, .int tnv16, .ref tn_17, .ref tn_18, .ref tnt])), (tn_3, .inl (k 0, 10, .inl tng3)), (tn_4, .inl (k 0, 10, .inl tng4)), (tn_5, .inl (k 0, 10, .inl tng5)), (tn_9, .inl (k 0, 4, .inl tng9)), (tn_10, .inl (k 0, 4, .inl tng10))]) [0, 2, 3, 1, 4, 5, 6, 7, 8, 9] rfl
      have hD9 := hD.sub (ws' := [(ob, .inr (3, [.ref oba, .ref ob_1])), (oba, .inr (1, [.ref oba_0, .int o_5, .int o_6])), (oba_0, .inl (k 0, 8, .inl o_7)), (ob_1, .inl (k 2, 1000, .inr (.inl g_26))), (tn, .inr (10, [.int tnv0, .int tnv1, .int tnv2, .ref tn_3, .ref tn_4, .ref tn_5, .ref tn_6, .int tnv7, .int tnv8, .ref tn_9, .ref tn_10, .int tnv11, .ref tn_12, .ref tn_13, .ref tn_14, .ref tn_15, .int tnv16, .ref tn_17, .ref tn_18, .ref tnt])), (tn_3, .inl (k 0, 10, .inl tng3)), (tn_4, .inl (k 0, 10, .inl tng4)), (tn_5, .inl (k 0, 10, .inl tng5)), (tn_9, .inl (k 0, 4, .inl tng9)), (tn_10, .inl (k 0, 4, .inl tng10))]) [0, 2, 3, 1, 4, 5, 6, 7, 8, 9] (by decide) rfl
      exact W.vret hx hb hr (fun tZ ht hW => ⟨⟨(o_5, o_6, o_7, g_26), rfl, hw_9, by rw [ht]; exact hP9, va_K.moved hW.alike hK, hD9⟩, hS.F ht⟩) hS.2.2 dX3_weighLanes_93
    · skip
      have zh_23 : ¬ x_16.toInt = 0 := z_ne h_23
      refine lv_iload hx hb dX3_weighLanes_67 (lv_at hl 0 rfl) ?_
      refine lv_bipush (v := 10) hx hb dX3_weighLanes_69 (by decide) ?_
      refine lv_icmp_ge (tgt := 81) hx hb dX3_weighLanes_71 (by decide) (fun h_27 => ?_) (fun h_27 => ?_)
      · skip
        have zh_27 : 10 ≤ r_20.toInt := z_le h_27
        refine lv_aload_n hx hb dX3_weighLanes_81 rfl (lv_at hl 3 rfl) ?_
        refine va_get (D := D) (ci := 3) (v := .ref ob_1) (C := RX3) (T := TX3) (N := 2) hx hb hts iT_X3 hown hK hP 0 rfl rfl 1 (by decide) (hts _ tw_2_164) (fun _ h9 => h9) rfl dX3_weighLanes_82 ?_
        refine lv_iload hx hb dX3_weighLanes_85 (lv_at hl 2 rfl) ?_
        refine lv_dup2_11 hx hb dX3_weighLanes_87 rfl rfl ?_
        refine va_lald hx hb hK hP 1 2 rfl rfl (z_in (by omega) (by omega)) dX3_weighLanes_88 ?_
        refine lv_topl (fun x_28 ex_28 => ?_)
        refine lv_lload hx hb dX3_weighLanes_89 (lv_at hl 8 rfl) ?_
        refine lv_ladd hx hb dX3_weighLanes_91 ?_
        refine lv_topl (fun x_29 ex_29 => ?_)
        refine va_last hx hb hK hP hD hS 1 2 rfl rfl (z_in (by omega) (by omega)) dX3_weighLanes_92 (fun H locs hP hD hS => ?_)
        obtain ⟨g_30, eg_30⟩ : ∃ z : Nat → Int64, vp_updL obg1 x_10.toNatClampNeg x_29 = z := ⟨_, rfl⟩
        have hP : va_P D vwCl [(ob, .inr (3, [.ref oba, .ref ob_1])), (ob_1, .inl (k 2, 1000, .inr (.inl (vp_updL obg1 x_10.toNatClampNeg x_29)))), (oba, .inr (1, [.ref oba_0, .int o_5, .int o_6])), (oba_0, .inl (k 0, 8, .inl o_7)), (tn, .inr (10, [.int tnv0, .int tnv1, .int tnv2, .ref tn_3, .ref tn_4, .ref tn_5, .ref tn_6, .int tnv7, .int tnv8, .ref tn_9, .ref tn_10, .int tnv11, .ref tn_12, .ref tn_13, .ref tn_14, .ref tn_15, .int tnv16, .ref tn_17, .ref tn_18, .ref tnt])), (tn_3, .inl (k 0, 10, .inl tng3)), (tn_4, .inl (k 0, 10, .inl tng4)), (tn_5, .inl (k 0, 10, .inl tng5)), (tn_9, .inl (k 0, 4, .inl tng9)), (tn_10, .inl (k 0, 4, .inl tng10))] H := hP
        have hD : va_D A [(ob, .inr (3, [.ref oba, .ref ob_1])), (ob_1, .inl (k 2, 1000, .inr (.inl (vp_updL obg1 x_10.toNatClampNeg x_29)))), (oba, .inr (1, [.ref oba_0, .int o_5, .int o_6])), (oba_0, .inl (k 0, 8, .inl o_7)), (tn, .inr (10, [.int tnv0, .int tnv1, .int tnv2, .ref tn_3, .ref tn_4, .ref tn_5, .ref tn_6, .int tnv7, .int tnv8, .ref tn_9, .ref tn_10, .int tnv11, .ref tn_12, .ref tn_13, .ref tn_14, .ref tn_15, .int tnv16, .ref tn_17, .ref tn_18, .ref tnt])), (tn_3, .inl (k 0, 10, .inl tng3)), (tn_4, .inl (k 0, 10, .inl tng4)), (tn_5, .inl (k 0, 10, .inl tng5)), (tn_9, .inl (k 0, 4, .inl tng9)), (tn_10, .inl (k 0, 4, .inl tng10))] := hD
        rw [eg_30] at hP hD
        have hP9 := hP.sub (ws' := [(ob, .inr (3, [.ref oba, .ref ob_1])), (oba, .inr (1, [.ref oba_0, .int o_5, .int o_6])), (oba_0, .inl (k 0, 8, .inl o_7)), (ob_1, .inl (k 2, 1000, .inr (.inl g_30))), (tn, .inr (10, [.int tnv0, .int tnv1, .int tnv2, .ref tn_3, .ref tn_4, .ref tn_5, .ref tn_6, .int tnv7, .int tnv8, .ref tn_9, .ref tn_10, .int tnv11, .ref tn_12, .ref tn_13, .ref tn_14, .ref tn_15, .int tnv16, .ref tn_17, .ref tn_18, .ref tnt])), (tn_3, .inl (k 0, 10, .inl tng3)), (tn_4, .inl (k 0, 10, .inl tng4)), (tn_5, .inl (k 0, 10, .inl tng5)), (tn_9, .inl (k 0, 4, .inl tng9)), (tn_10, .inl (k 0, 4, .inl tng10))]) [0, 2, 3, 1, 4, 5, 6, 7, 8, 9] rfl
        have hD9 := hD.sub (ws' := [(ob, .inr (3, [.ref oba, .ref ob_1])), (oba, .inr (1, [.ref oba_0, .int o_5, .int o_6])), (oba_0, .inl (k 0, 8, .inl o_7)), (ob_1, .inl (k 2, 1000, .inr (.inl g_30))), (tn, .inr (10, [.int tnv0, .int tnv1, .int tnv2, .ref tn_3, .ref tn_4, .ref tn_5, .ref tn_6, .int tnv7, .int tnv8, .ref tn_9, .ref tn_10, .int tnv11, .ref tn_12, .ref tn_13, .ref tn_14, .ref tn_15, .int tnv16, .ref tn_17, .ref tn_18, .ref tnt])), (tn_3, .inl (k 0, 10, .inl tng3)), (tn_4, .inl (k 0, 10, .inl tng4)), (tn_5, .inl (k 0, 10, .inl tng5)), (tn_9, .inl (k 0, 4, .inl tng9)), (tn_10, .inl (k 0, 4, .inl tng10))]) [0, 2, 3, 1, 4, 5, 6, 7, 8, 9] (by decide) rfl
        exact W.vret hx hb hr (fun tZ ht hW => ⟨⟨(o_5, o_6, o_7, g_30), rfl, hw_9, by rw [ht]; exact hP9, va_K.moved hW.alike hK, hD9⟩, hS.F ht⟩) hS.2.2 dX3_weighLanes_93
      · skip
        have zh_27 : r_20.toInt < 10 := z_nle h_27
        refine lv_iload hx hb dX3_weighLanes_74 (lv_at hl 9 rfl) ?_
        refine lv_bipush (v := 10) hx hb dX3_weighLanes_76 (by decide) ?_
        refine lv_icmp_lt (tgt := 94) hx hb dX3_weighLanes_78 (by decide) (fun c9 => absurd c9 (by decide)) (fun _ => ?_)
        refine lv_aload_n hx hb dX3_weighLanes_81 rfl (lv_at hl 3 rfl) ?_
        refine va_get (D := D) (ci := 3) (v := .ref ob_1) (C := RX3) (T := TX3) (N := 2) hx hb hts iT_X3 hown hK hP 0 rfl rfl 1 (by decide) (hts _ tw_2_164) (fun _ h9 => h9) rfl dX3_weighLanes_82 ?_
        refine lv_iload hx hb dX3_weighLanes_85 (lv_at hl 2 rfl) ?_
        refine lv_dup2_11 hx hb dX3_weighLanes_87 rfl rfl ?_
        refine va_lald hx hb hK hP 1 2 rfl rfl (z_in (by omega) (by omega)) dX3_weighLanes_88 ?_
        refine lv_topl (fun x_31 ex_31 => ?_)
        refine lv_lload hx hb dX3_weighLanes_89 (lv_at hl 8 rfl) ?_
        refine lv_ladd hx hb dX3_weighLanes_91 ?_
        refine lv_topl (fun x_32 ex_32 => ?_)
        refine va_last hx hb hK hP hD hS 1 2 rfl rfl (z_in (by omega) (by omega)) dX3_weighLanes_92 (fun H locs hP hD hS => ?_)
        obtain ⟨g_33, eg_33⟩ : ∃ z : Nat → Int64, vp_updL obg1 x_10.toNatClampNeg x_32 = z := ⟨_, rfl⟩
        have hP : va_P D vwCl [(ob, .inr (3, [.ref oba, .ref ob_1])), (ob_1, .inl (k 2, 1000, .inr (.inl (vp_updL obg1 x_10.toNatClampNeg x_32)))), (oba, .inr (1, [.ref oba_0, .int o_5, .int o_6])), (oba_0, .inl (k 0, 8, .inl o_7)), (tn, .inr (10, [.int tnv0, .int tnv1, .int tnv2, .ref tn_3, .ref tn_4, .ref tn_5, .ref tn_6, .int tnv7, .int tnv8, .ref tn_9, .ref tn_10, .int tnv11, .ref tn_12, .ref tn_13, .ref tn_14, .ref tn_15, .int tnv16, .ref tn_17, .ref tn_18, .ref tnt])), (tn_3, .inl (k 0, 10, .inl tng3)), (tn_4, .inl (k 0, 10, .inl tng4)), (tn_5, .inl (k 0, 10, .inl tng5)), (tn_9, .inl (k 0, 4, .inl tng9)), (tn_10, .inl (k 0, 4, .inl tng10))] H := hP
        have hD : va_D A [(ob, .inr (3, [.ref oba, .ref ob_1])), (ob_1, .inl (k 2, 1000, .inr (.inl (vp_updL obg1 x_10.toNatClampNeg x_32)))), (oba, .inr (1, [.ref oba_0, .int o_5, .int o_6])), (oba_0, .inl (k 0, 8, .inl o_7)), (tn, .inr (10, [.int tnv0, .int tnv1, .int tnv2, .ref tn_3, .ref tn_4, .ref tn_5, .ref tn_6, .int tnv7, .int tnv8, .ref tn_9, .ref tn_10, .int tnv11, .ref tn_12, .ref tn_13, .ref tn_14, .ref tn_15, .int tnv16, .ref tn_17, .ref tn_18, .ref tnt])), (tn_3, .inl (k 0, 10, .inl tng3)), (tn_4, .inl (k 0, 10, .inl tng4)), (tn_5, .inl (k 0, 10, .inl tng5)), (tn_9, .inl (k 0, 4, .inl tng9)), (tn_10, .inl (k 0, 4, .inl tng10))] := hD
        rw [eg_33] at hP hD
        have hP9 := hP.sub (ws' := [(ob, .inr (3, [.ref oba, .ref ob_1])), (oba, .inr (1, [.ref oba_0, .int o_5, .int o_6])), (oba_0, .inl (k 0, 8, .inl o_7)), (ob_1, .inl (k 2, 1000, .inr (.inl g_33))), (tn, .inr (10, [.int tnv0, .int tnv1, .int tnv2, .ref tn_3, .ref tn_4, .ref tn_5, .ref tn_6, .int tnv7, .int tnv8, .ref tn_9, .ref tn_10, .int tnv11, .ref tn_12, .ref tn_13, .ref tn_14, .ref tn_15, .int tnv16, .ref tn_17, .ref tn_18, .ref tnt])), (tn_3, .inl (k 0, 10, .inl tng3)), (tn_4, .inl (k 0, 10, .inl tng4)), (tn_5, .inl (k 0, 10, .inl tng5)), (tn_9, .inl (k 0, 4, .inl tng9)), (tn_10, .inl (k 0, 4, .inl tng10))]) [0, 2, 3, 1, 4, 5, 6, 7, 8, 9] rfl
        have hD9 := hD.sub (ws' := [(ob, .inr (3, [.ref oba, .ref ob_1])), (oba, .inr (1, [.ref oba_0, .int o_5, .int o_6])), (oba_0, .inl (k 0, 8, .inl o_7)), (ob_1, .inl (k 2, 1000, .inr (.inl g_33))), (tn, .inr (10, [.int tnv0, .int tnv1, .int tnv2, .ref tn_3, .ref tn_4, .ref tn_5, .ref tn_6, .int tnv7, .int tnv8, .ref tn_9, .ref tn_10, .int tnv11, .ref tn_12, .ref tn_13, .ref tn_14, .ref tn_15, .int tnv16, .ref tn_17, .ref tn_18, .ref tnt])), (tn_3, .inl (k 0, 10, .inl tng3)), (tn_4, .inl (k 0, 10, .inl tng4)), (tn_5, .inl (k 0, 10, .inl tng5)), (tn_9, .inl (k 0, 4, .inl tng9)), (tn_10, .inl (k 0, 4, .inl tng10))]) [0, 2, 3, 1, 4, 5, 6, 7, 8, 9] (by decide) rfl
        exact W.vret hx hb hr (fun tZ ht hW => ⟨⟨(o_5, o_6, o_7, g_33), rfl, hw_9, by rw [ht]; exact hP9, va_K.moved hW.alike hK, hD9⟩, hS.F ht⟩) hS.2.2 dX3_weighLanes_93
  · skip
    have zh_11 : 1000 ≤ x_10.toInt := z_nlt h_11
    have hP9 := hP.sub (ws' := [(ob, .inr (3, [.ref oba, .ref ob_1])), (oba, .inr (1, [.ref oba_0, .int o_5, .int o_6])), (oba_0, .inl (k 0, 8, .inl o_7)), (ob_1, .inl (k 2, 1000, .inr (.inl obg1))), (tn, .inr (10, [.int tnv0, .int tnv1, .int tnv2, .ref tn_3, .ref tn_4, .ref tn_5, .ref tn_6, .int tnv7, .int tnv8, .ref tn_9, .ref tn_10, .int tnv11, .ref tn_12, .ref tn_13, .ref tn_14, .ref tn_15, .int tnv16, .ref tn_17, .ref tn_18, .ref tnt])), (tn_3, .inl (k 0, 10, .inl tng3)), (tn_4, .inl (k 0, 10, .inl tng4)), (tn_5, .inl (k 0, 10, .inl tng5)), (tn_9, .inl (k 0, 4, .inl tng9)), (tn_10, .inl (k 0, 4, .inl tng10))]) [0, 2, 3, 1, 4, 5, 6, 7, 8, 9] rfl
    have hD9 := hD.sub (ws' := [(ob, .inr (3, [.ref oba, .ref ob_1])), (oba, .inr (1, [.ref oba_0, .int o_5, .int o_6])), (oba_0, .inl (k 0, 8, .inl o_7)), (ob_1, .inl (k 2, 1000, .inr (.inl obg1))), (tn, .inr (10, [.int tnv0, .int tnv1, .int tnv2, .ref tn_3, .ref tn_4, .ref tn_5, .ref tn_6, .int tnv7, .int tnv8, .ref tn_9, .ref tn_10, .int tnv11, .ref tn_12, .ref tn_13, .ref tn_14, .ref tn_15, .int tnv16, .ref tn_17, .ref tn_18, .ref tnt])), (tn_3, .inl (k 0, 10, .inl tng3)), (tn_4, .inl (k 0, 10, .inl tng4)), (tn_5, .inl (k 0, 10, .inl tng5)), (tn_9, .inl (k 0, 4, .inl tng9)), (tn_10, .inl (k 0, 4, .inl tng10))]) [0, 2, 3, 1, 4, 5, 6, 7, 8, 9] (by decide) rfl
    exact W.vret hx hb hr (fun tZ ht hW => ⟨⟨(o_5, o_6, o_7, obg1), rfl, hw_9, by rw [ht]; exact hP9, va_K.moved hW.alike hK, hD9⟩, hS.F ht⟩) hS.2.2 dX3_weighLanes_33
set_option maxHeartbeats 4000000 in
set_option maxRecDepth 100000 in
theorem c_X3_weighLanes_1 (l : Launch) (D : va_G) (k : Nat → ClassId) (ob : Nat) (tn : Nat) (p1 : Int32) (p2 : Int32) (p3 : Int32) (p4 : Int64) (oba : Nat) (ob_1 : Nat) (oba_0 : Nat) (obav1 : Int32) (obav2 : Int32) (obag0 : Nat → Int32) (obg1 : Nat → Int64) (tnv0 : Int32) (tnv1 : Int32) (tnv2 : Int32) (tn_3 : Nat) (tn_4 : Nat) (tn_5 : Nat) (tn_6 : Nat) (tnv7 : Int32) (tnv8 : Int32) (tn_9 : Nat) (tn_10 : Nat) (tnv11 : Int32) (tn_12 : Nat) (tn_13 : Nat) (tn_14 : Nat) (tn_15 : Nat) (tnv16 : Int32) (tn_17 : Nat) (tn_18 : Nat) (tnt : Nat) (tng3 : Nat → Int32) (tng4 : Nat → Int32) (tng5 : Nat → Int32) (tng6 : Nat → Int32) (tng9 : Nat → Int32) (tng10 : Nat → Int32) (sz : Nat) (h_p1 : 0 ≤ p1.toInt ∧ p1.toInt ≤ 7) (hp_obag0_0 : PR 8 1 0 0 1000000 obag0) (h_tnv0 : 0 ≤ tnv0.toInt ∧ tnv0.toInt ≤ 8) (h_tnv2 : 0 ≤ tnv2.toInt ∧ tnv2.toInt ≤ 10) (h_tnv8 : 0 ≤ tnv8.toInt ∧ tnv8.toInt ≤ 4) (h_tnv11 : 0 ≤ tnv11.toInt ∧ tnv11.toInt ≤ 6) (h_tnv16 : 0 ≤ tnv16.toInt ∧ tnv16.toInt ≤ 2) (hp_tng3_0 : PR 10 1 0 0 7 tng3) (hp_tng4_0 : PR 10 1 0 0 7 tng4) (hp_tng5_0 : PR 10 1 0 0 60 tng5) (hp_tng6_0 : PR 10 1 0 0 10 tng6) (hp_tng9_0 : PR 4 1 0 0 7 tng9) (hp_tng10_0 : PR 4 1 0 0 99 tng10) : Met l yX3_weighLanes (ww yX3_weighLanes cX3_weighLanes 14 none) ({ frames := 5, cells := 0, slots := 0, locals := 133 }) (Pre0 D k [(ob, .inr (3, [.ref oba, .ref ob_1])), (oba, .inr (1, [.ref oba_0, .int obav1, .int obav2])), (oba_0, .inl (k 0, 8, .inl obag0)), (ob_1, .inl (k 2, 1000, .inr (.inl obg1))), (tn, .inr (10, [.int tnv0, .int tnv1, .int tnv2, .ref tn_3, .ref tn_4, .ref tn_5, .ref tn_6, .int tnv7, .int tnv8, .ref tn_9, .ref tn_10, .int tnv11, .ref tn_12, .ref tn_13, .ref tn_14, .ref tn_15, .int tnv16, .ref tn_17, .ref tn_18, .ref tnt])), (tn_3, .inl (k 0, 10, .inl tng3)), (tn_4, .inl (k 0, 10, .inl tng4)), (tn_5, .inl (k 0, 10, .inl tng5)), (tn_6, .inl (k 0, 10, .inl tng6)), (tn_9, .inl (k 0, 4, .inl tng9)), (tn_10, .inl (k 0, 4, .inl tng10))] sz [.ref ob, .ref tn, .int p1, .int p2, .int p3, .long p4, .int 9]) (va_Qv (fun (u : Int32 × Int32 × (Nat → Int32) × (Nat → Int64)) => match u with | (obav1z, obav2z, obag0z, obg1z) => (PR 8 1 0 0 1000000 obag0z)) (fun (u : Int32 × Int32 × (Nat → Int32) × (Nat → Int64)) tZ => match u with | (obav1z, obav2z, obag0z, obg1z) => Bw D k (va_A [(ob, .inr (3, [.ref oba, .ref ob_1])), (oba, .inr (1, [.ref oba_0, .int obav1, .int obav2])), (oba_0, .inl (k 0, 8, .inl obag0)), (ob_1, .inl (k 2, 1000, .inr (.inl obg1))), (tn, .inr (10, [.int tnv0, .int tnv1, .int tnv2, .ref tn_3, .ref tn_4, .ref tn_5, .ref tn_6, .int tnv7, .int tnv8, .ref tn_9, .ref tn_10, .int tnv11, .ref tn_12, .ref tn_13, .ref tn_14, .ref tn_15, .int tnv16, .ref tn_17, .ref tn_18, .ref tnt])), (tn_3, .inl (k 0, 10, .inl tng3)), (tn_4, .inl (k 0, 10, .inl tng4)), (tn_5, .inl (k 0, 10, .inl tng5)), (tn_6, .inl (k 0, 10, .inl tng6)), (tn_9, .inl (k 0, 4, .inl tng9)), (tn_10, .inl (k 0, 4, .inl tng10))] sz) [(ob, .inr (3, [.ref oba, .ref ob_1])), (oba, .inr (1, [.ref oba_0, .int obav1z, .int obav2z])), (oba_0, .inl (k 0, 8, .inl obag0z)), (ob_1, .inl (k 2, 1000, .inr (.inl obg1z))), (tn, .inr (10, [.int tnv0, .int tnv1, .int tnv2, .ref tn_3, .ref tn_4, .ref tn_5, .ref tn_6, .int tnv7, .int tnv8, .ref tn_9, .ref tn_10, .int tnv11, .ref tn_12, .ref tn_13, .ref tn_14, .ref tn_15, .int tnv16, .ref tn_17, .ref tn_18, .ref tnt])), (tn_3, .inl (k 0, 10, .inl tng3)), (tn_4, .inl (k 0, 10, .inl tng4)), (tn_5, .inl (k 0, 10, .inl tng5)), (tn_6, .inl (k 0, 10, .inl tng6)), (tn_9, .inl (k 0, 4, .inl tng9)), (tn_10, .inl (k 0, 4, .inl tng10))] tZ) (va_A [(ob, .inr (3, [.ref oba, .ref ob_1])), (oba, .inr (1, [.ref oba_0, .int obav1, .int obav2])), (oba_0, .inl (k 0, 8, .inl obag0)), (ob_1, .inl (k 2, 1000, .inr (.inl obg1))), (tn, .inr (10, [.int tnv0, .int tnv1, .int tnv2, .ref tn_3, .ref tn_4, .ref tn_5, .ref tn_6, .int tnv7, .int tnv8, .ref tn_9, .ref tn_10, .int tnv11, .ref tn_12, .ref tn_13, .ref tn_14, .ref tn_15, .int tnv16, .ref tn_17, .ref tn_18, .ref tnt])), (tn_3, .inl (k 0, 10, .inl tng3)), (tn_4, .inl (k 0, 10, .inl tng4)), (tn_5, .inl (k 0, 10, .inl tng5)), (tn_6, .inl (k 0, 10, .inl tng6)), (tn_9, .inl (k 0, 4, .inl tng9)), (tn_10, .inl (k 0, 4, .inl tng10))] sz)) 0 0 (va_A [(ob, .inr (3, [.ref oba, .ref ob_1])), (oba, .inr (1, [.ref oba_0, .int obav1, .int obav2])), (oba_0, .inl (k 0, 8, .inl obag0)), (ob_1, .inl (k 2, 1000, .inr (.inl obg1))), (tn, .inr (10, [.int tnv0, .int tnv1, .int tnv2, .ref tn_3, .ref tn_4, .ref tn_5, .ref tn_6, .int tnv7, .int tnv8, .ref tn_9, .ref tn_10, .int tnv11, .ref tn_12, .ref tn_13, .ref tn_14, .ref tn_15, .int tnv16, .ref tn_17, .ref tn_18, .ref tnt])), (tn_3, .inl (k 0, 10, .inl tng3)), (tn_4, .inl (k 0, 10, .inl tng4)), (tn_5, .inl (k 0, 10, .inl tng5)), (tn_6, .inl (k 0, 10, .inl tng6)), (tn_9, .inl (k 0, 4, .inl tng9)), (tn_10, .inl (k 0, 4, .inl tng10))] sz) := by
  refine Met.ofW (cc := cX3_weighLanes) (maxL := 14) (ret := none) (by decide +kernel) rfl ?_
  intro p e s m args below meth c s₁ B hml hv
  obtain ⟨rfl, hsz, hP, hK, hD0, hN⟩ := hv
  have hx := B.exec
  have hb := B.bytes
  have hr := B.returns
  have hts : ∀ w ∈ TT, w.before _ s = true := fun w h => atoms_spec (ws := ww yX3_weighLanes cX3_weighLanes 14 none) B.pre w (List.mem_cons_of_mem _ h)
  have hown : s.vm.findClass RX3 = some m.cls := findClass_of_methodNamed B.named
  have hlocks := B.notSynchronized
  subst hsz
  have hD := hD0.self (sz := s.heap.size)
  generalize hAe : va_A [(ob, .inr (3, [.ref oba, .ref ob_1])), (oba, .inr (1, [.ref oba_0, .int obav1, .int obav2])), (oba_0, .inl (k 0, 8, .inl obag0)), (ob_1, .inl (k 2, 1000, .inr (.inl obg1))), (tn, .inr (10, [.int tnv0, .int tnv1, .int tnv2, .ref tn_3, .ref tn_4, .ref tn_5, .ref tn_6, .int tnv7, .int tnv8, .ref tn_9, .ref tn_10, .int tnv11, .ref tn_12, .ref tn_13, .ref tn_14, .ref tn_15, .int tnv16, .ref tn_17, .ref tn_18, .ref tnt])), (tn_3, .inl (k 0, 10, .inl tng3)), (tn_4, .inl (k 0, 10, .inl tng4)), (tn_5, .inl (k 0, 10, .inl tng5)), (tn_6, .inl (k 0, 10, .inl tng6)), (tn_9, .inl (k 0, 4, .inl tng9)), (tn_10, .inl (k 0, 4, .inl tng10))] s.heap.size = A at hD ⊢
  have hA : ∀ q : Nat, s.heap.size ≤ q → A q := fun q h => by rw [← hAe]; exact Or.inr h
  have hS : va_S A s.heap s.heap [] := va_S.rf
  have hl := lv_entry ([.ref ob, .ref tn, .int p1, .int p2, .int p3, .long p4, .int 9]) (n := 14) (Nat.le_of_ble_eq_true rfl)
  rw [lg_entry_eq]
  generalize (lg_sl ([.ref ob, .ref tn, .int p1, .int p2, .int p3, .long p4, .int 9]) ++ List.replicate (14 - (lg_sl ([.ref ob, .ref tn, .int p1, .int p2, .int p3, .long p4, .int 9])).length) Slot.unset).toArray = ls at hl ⊢
  have hl : lv_has ls 14 [(0, .ref ob), (1, .ref tn), (2, .int p1), (3, .int p2), (4, .int p3), (5, .long p4), (7, .int 9)] := hl
  refine lv_aload_n hx hb dX3_weighLanes_0 rfl (lv_at hl 0 rfl) ?_
  refine va_get (D := D) (ci := 3) (v := .ref oba) (C := RX3) (T := TX3) (N := 2) hx hb hts iT_X3 hown hK hP 0 rfl rfl 0 (by decide) (hts _ tw_2_163) (fun _ h9 => h9) rfl dX3_weighLanes_1 ?_
  refine lv_aload_n hx hb dX3_weighLanes_4 rfl (lv_at hl 1 rfl) ?_
  refine lv_aload_n hx hb dX3_weighLanes_5 rfl (lv_at hl 1 rfl) ?_
  have hPc := hP.sub (ws' := [(tn, .inr (10, [.int tnv0, .int tnv1, .int tnv2, .ref tn_3, .ref tn_4, .ref tn_5, .ref tn_6, .int tnv7, .int tnv8, .ref tn_9, .ref tn_10, .int tnv11, .ref tn_12, .ref tn_13, .ref tn_14, .ref tn_15, .int tnv16, .ref tn_17, .ref tn_18, .ref tnt]))]) [4] rfl
  have hDc := hD.sub (ws' := [(tn, .inr (10, [.int tnv0, .int tnv1, .int tnv2, .ref tn_3, .ref tn_4, .ref tn_5, .ref tn_6, .int tnv7, .int tnv8, .ref tn_9, .ref tn_10, .int tnv11, .ref tn_12, .ref tn_13, .ref tn_14, .ref tn_15, .int tnv16, .ref tn_17, .ref tn_18, .ref tnt]))]) [4] (by decide) rfl
  have hFc := va_free (wc := [(tn, .inr (10, [.int tnv0, .int tnv1, .int tnv2, .ref tn_3, .ref tn_4, .ref tn_5, .ref tn_6, .int tnv7, .int tnv8, .ref tn_9, .ref tn_10, .int tnv11, .ref tn_12, .ref tn_13, .ref tn_14, .ref tn_15, .int tnv16, .ref tn_17, .ref tn_18, .ref tnt]))]) hD hS hA [4] rfl
  refine va_calli (va_runV (C := RX10) (As := []) (rest := [.ref tn, .ref oba]) ⟨hx, hb, hml, hown, hts⟩ (c_X10_openLanes l D k tn tnv0 tnv1 tnv2 tn_3 tn_4 tn_5 tn_6 tnv7 tnv8 tn_9 tn_10 tnv11 tn_12 tn_13 tn_14 tn_15 tnv16 tn_17 tn_18 tnt s.heap.size (show 0 ≤ tnv0.toInt ∧ tnv0.toInt ≤ 8 from by omega) (show 0 ≤ tnv2.toInt ∧ tnv2.toInt ≤ 10 from by omega) (show 0 ≤ tnv8.toInt ∧ tnv8.toInt ≤ 4 from by omega) (show 0 ≤ tnv11.toInt ∧ tnv11.toInt ≤ 6 from by omega) (show 0 ≤ tnv16.toInt ∧ tnv16.toInt ≤ 2 from by omega)) (cwV 0 hts (gV tw_5_155 tw_3_180 tw_3_181 tw_1_3 tw_3_182) rfl rfl rfl hdV_X10_openLanes ⟨Nat.le_of_ble_eq_true rfl, Nat.le_of_ble_eq_true rfl⟩) (cz_V hK hPc hDc hN (ci := 10) (q0 := 0) rfl rfl []) rfl rfl hl.1 rfl (lv_room (Nat.le_of_ble_eq_true rfl)) dX3_weighLanes_6 ⟨Nat.le_of_ble_eq_true rfl, Nat.le_of_ble_eq_true rfl⟩) hS (fun q _ h => hFc q h) hFc (fun r_1 uZ tZ H1 locs ht hvm hw hB hz1 hk1 hS => ?_)
  obtain ⟨hP1, hK1, hD1⟩ := hB
  rw [ht] at hP1
  obtain ⟨hP, hD⟩ := va_join (wr := [(ob, .inr (3, [.ref oba, .ref ob_1])), (oba, .inr (1, [.ref oba_0, .int obav1, .int obav2])), (oba_0, .inl (k 0, 8, .inl obag0)), (ob_1, .inl (k 2, 1000, .inr (.inl obg1))), (tn_3, .inl (k 0, 10, .inl tng3)), (tn_4, .inl (k 0, 10, .inl tng4)), (tn_5, .inl (k 0, 10, .inl tng5)), (tn_6, .inl (k 0, 10, .inl tng6)), (tn_9, .inl (k 0, 4, .inl tng9)), (tn_10, .inl (k 0, 4, .inl tng10))]) (w1 := [(tn, .inr (10, [.int tnv0, .int tnv1, .int tnv2, .ref tn_3, .ref tn_4, .ref tn_5, .ref tn_6, .int tnv7, .int tnv8, .ref tn_9, .ref tn_10, .int tnv11, .ref tn_12, .ref tn_13, .ref tn_14, .ref tn_15, .int tnv16, .ref tn_17, .ref tn_18, .ref tnt]))]) hP hD [4] [0, 1, 2, 3, 5, 6, 7, 8, 9, 10] rfl rfl (by decide) (by decide) hk1 hFc hP1 hD1
  clear hK1 hP1 hD1 hPc hDc hFc
  clear hk1 hz1 ht hvm
  have hP : va_P D vwCl [(ob, .inr (3, [.ref oba, .ref ob_1])), (oba, .inr (1, [.ref oba_0, .int obav1, .int obav2])), (oba_0, .inl (k 0, 8, .inl obag0)), (ob_1, .inl (k 2, 1000, .inr (.inl obg1))), (tn_3, .inl (k 0, 10, .inl tng3)), (tn_4, .inl (k 0, 10, .inl tng4)), (tn_5, .inl (k 0, 10, .inl tng5)), (tn_6, .inl (k 0, 10, .inl tng6)), (tn_9, .inl (k 0, 4, .inl tng9)), (tn_10, .inl (k 0, 4, .inl tng10)), (tn, .inr (10, [.int tnv0, .int tnv1, .int tnv2, .ref tn_3, .ref tn_4, .ref tn_5, .ref tn_6, .int tnv7, .int tnv8, .ref tn_9, .ref tn_10, .int tnv11, .ref tn_12, .ref tn_13, .ref tn_14, .ref tn_15, .int tnv16, .ref tn_17, .ref tn_18, .ref tnt]))] H1 := hP
  have hD : va_D A [(ob, .inr (3, [.ref oba, .ref ob_1])), (oba, .inr (1, [.ref oba_0, .int obav1, .int obav2])), (oba_0, .inl (k 0, 8, .inl obag0)), (ob_1, .inl (k 2, 1000, .inr (.inl obg1))), (tn_3, .inl (k 0, 10, .inl tng3)), (tn_4, .inl (k 0, 10, .inl tng4)), (tn_5, .inl (k 0, 10, .inl tng5)), (tn_6, .inl (k 0, 10, .inl tng6)), (tn_9, .inl (k 0, 4, .inl tng9)), (tn_10, .inl (k 0, 4, .inl tng10)), (tn, .inr (10, [.int tnv0, .int tnv1, .int tnv2, .ref tn_3, .ref tn_4, .ref tn_5, .ref tn_6, .int tnv7, .int tnv8, .ref tn_9, .ref tn_10, .int tnv11, .ref tn_12, .ref tn_13, .ref tn_14, .ref tn_15, .int tnv16, .ref tn_17, .ref tn_18, .ref tnt]))] := hD
  generalize H1 = H at hP hS ⊢
  have hw_2 : (0 ≤ r_1.toInt ∧ r_1.toInt ≤ 1023) := hw
  have hw_3 := hw_2
  clear hw
  refine lv_iload hx hb dX3_weighLanes_9 (lv_at hl 4 rfl) ?_
  have hPc := hP.sub (ws' := [(oba, .inr (1, [.ref oba_0, .int obav1, .int obav2])), (oba_0, .inl (k 0, 8, .inl obag0)), (tn, .inr (10, [.int tnv0, .int tnv1, .int tnv2, .ref tn_3, .ref tn_4, .ref tn_5, .ref tn_6, .int tnv7, .int tnv8, .ref tn_9, .ref tn_10, .int tnv11, .ref tn_12, .ref tn_13, .ref tn_14, .ref tn_15, .int tnv16, .ref tn_17, .ref tn_18, .ref tnt])), (tn_3, .inl (k 0, 10, .inl tng3)), (tn_4, .inl (k 0, 10, .inl tng4)), (tn_5, .inl (k 0, 10, .inl tng5)), (tn_9, .inl (k 0, 4, .inl tng9)), (tn_10, .inl (k 0, 4, .inl tng10))]) [1, 2, 10, 4, 5, 6, 8, 9] rfl
  have hDc := hD.sub (ws' := [(oba, .inr (1, [.ref oba_0, .int obav1, .int obav2])), (oba_0, .inl (k 0, 8, .inl obag0)), (tn, .inr (10, [.int tnv0, .int tnv1, .int tnv2, .ref tn_3, .ref tn_4, .ref tn_5, .ref tn_6, .int tnv7, .int tnv8, .ref tn_9, .ref tn_10, .int tnv11, .ref tn_12, .ref tn_13, .ref tn_14, .ref tn_15, .int tnv16, .ref tn_17, .ref tn_18, .ref tnt])), (tn_3, .inl (k 0, 10, .inl tng3)), (tn_4, .inl (k 0, 10, .inl tng4)), (tn_5, .inl (k 0, 10, .inl tng5)), (tn_9, .inl (k 0, 4, .inl tng9)), (tn_10, .inl (k 0, 4, .inl tng10))]) [1, 2, 10, 4, 5, 6, 8, 9] (by decide) rfl
  have hFc := va_free (wc := [(oba, .inr (1, [.ref oba_0, .int obav1, .int obav2])), (oba_0, .inl (k 0, 8, .inl obag0)), (tn, .inr (10, [.int tnv0, .int tnv1, .int tnv2, .ref tn_3, .ref tn_4, .ref tn_5, .ref tn_6, .int tnv7, .int tnv8, .ref tn_9, .ref tn_10, .int tnv11, .ref tn_12, .ref tn_13, .ref tn_14, .ref tn_15, .int tnv16, .ref tn_17, .ref tn_18, .ref tnt])), (tn_3, .inl (k 0, 10, .inl tng3)), (tn_4, .inl (k 0, 10, .inl tng4)), (tn_5, .inl (k 0, 10, .inl tng5)), (tn_9, .inl (k 0, 4, .inl tng9)), (tn_10, .inl (k 0, 4, .inl tng10))]) hD hS hA [1, 2, 10, 4, 5, 6, 8, 9] rfl
  refine va_callv (va_runV (C := RX1) (As := [.ref tn, .int r_1, .int p3]) (rest := []) ⟨hx, hb, hml, hown, hts⟩ (c_X1_fall l D k oba tn r_1 p3 oba_0 obav1 obav2 obag0 tnv0 tnv1 tnv2 tn_3 tn_4 tn_5 tn_6 tnv7 tnv8 tn_9 tn_10 tnv11 tn_12 tn_13 tn_14 tn_15 tnv16 tn_17 tn_18 tnt tng3 tng4 tng5 tng9 tng10 H.size hp_obag0_0 (show 0 ≤ tnv0.toInt ∧ tnv0.toInt ≤ 8 from by omega) (show 0 ≤ tnv2.toInt ∧ tnv2.toInt ≤ 10 from by omega) (show 0 ≤ tnv8.toInt ∧ tnv8.toInt ≤ 4 from by omega) (show 0 ≤ tnv11.toInt ∧ tnv11.toInt ≤ 6 from by omega) (show 0 ≤ tnv16.toInt ∧ tnv16.toInt ≤ 2 from by omega) hp_tng3_0 hp_tng4_0 hp_tng5_0 hp_tng9_0 hp_tng10_0) (cwV 3 hts (gV tw_5_156 tw_3_184 tw_3_185 tw_1_6 tw_3_186) rfl rfl rfl hdV_X1_fall ⟨Nat.le_of_ble_eq_true rfl, Nat.le_of_ble_eq_true rfl⟩) (cz_V hK hPc hDc hN (ci := 1) (q0 := 0) rfl rfl [.ref tn, .int r_1, .int p3]) rfl rfl hl.1 rfl (lv_room (Nat.le_of_ble_eq_true rfl)) dX3_weighLanes_11 ⟨Nat.le_of_ble_eq_true rfl, Nat.le_of_ble_eq_true rfl⟩) hS (fun q _ h => hFc q h) hFc (fun uZ tZ H1 locs ht hvm hw hB hz1 hk1 hS => ?_)
  obtain ⟨o_5, o_6, o_7⟩ := uZ
  obtain ⟨hP1, hK1, hD1⟩ := hB
  rw [ht] at hP1
  obtain ⟨hP, hD⟩ := va_join (wr := [(ob, .inr (3, [.ref oba, .ref ob_1])), (ob_1, .inl (k 2, 1000, .inr (.inl obg1))), (tn_6, .inl (k 0, 10, .inl tng6))]) (w1 := [(oba, .inr (1, [.ref oba_0, .int o_5, .int o_6])), (oba_0, .inl (k 0, 8, .inl o_7)), (tn, .inr (10, [.int tnv0, .int tnv1, .int tnv2, .ref tn_3, .ref tn_4, .ref tn_5, .ref tn_6, .int tnv7, .int tnv8, .ref tn_9, .ref tn_10, .int tnv11, .ref tn_12, .ref tn_13, .ref tn_14, .ref tn_15, .int tnv16, .ref tn_17, .ref tn_18, .ref tnt])), (tn_3, .inl (k 0, 10, .inl tng3)), (tn_4, .inl (k 0, 10, .inl tng4)), (tn_5, .inl (k 0, 10, .inl tng5)), (tn_9, .inl (k 0, 4, .inl tng9)), (tn_10, .inl (k 0, 4, .inl tng10))]) hP hD [1, 2, 10, 4, 5, 6, 8, 9] [0, 3, 7] rfl rfl (by decide) (by decide) hk1 hFc hP1 hD1
  clear hK1 hP1 hD1 hPc hDc hFc
  clear hk1 hz1 ht hvm
  have hP : va_P D vwCl [(ob, .inr (3, [.ref oba, .ref ob_1])), (ob_1, .inl (k 2, 1000, .inr (.inl obg1))), (tn_6, .inl (k 0, 10, .inl tng6)), (oba, .inr (1, [.ref oba_0, .int o_5, .int o_6])), (oba_0, .inl (k 0, 8, .inl o_7)), (tn, .inr (10, [.int tnv0, .int tnv1, .int tnv2, .ref tn_3, .ref tn_4, .ref tn_5, .ref tn_6, .int tnv7, .int tnv8, .ref tn_9, .ref tn_10, .int tnv11, .ref tn_12, .ref tn_13, .ref tn_14, .ref tn_15, .int tnv16, .ref tn_17, .ref tn_18, .ref tnt])), (tn_3, .inl (k 0, 10, .inl tng3)), (tn_4, .inl (k 0, 10, .inl tng4)), (tn_5, .inl (k 0, 10, .inl tng5)), (tn_9, .inl (k 0, 4, .inl tng9)), (tn_10, .inl (k 0, 4, .inl tng10))] H1 := hP
  have hD : va_D A [(ob, .inr (3, [.ref oba, .ref ob_1])), (ob_1, .inl (k 2, 1000, .inr (.inl obg1))), (tn_6, .inl (k 0, 10, .inl tng6)), (oba, .inr (1, [.ref oba_0, .int o_5, .int o_6])), (oba_0, .inl (k 0, 8, .inl o_7)), (tn, .inr (10, [.int tnv0, .int tnv1, .int tnv2, .ref tn_3, .ref tn_4, .ref tn_5, .ref tn_6, .int tnv7, .int tnv8, .ref tn_9, .ref tn_10, .int tnv11, .ref tn_12, .ref tn_13, .ref tn_14, .ref tn_15, .int tnv16, .ref tn_17, .ref tn_18, .ref tnt])), (tn_3, .inl (k 0, 10, .inl tng3)), (tn_4, .inl (k 0, 10, .inl tng4)), (tn_5, .inl (k 0, 10, .inl tng5)), (tn_9, .inl (k 0, 4, .inl tng9)), (tn_10, .inl (k 0, 4, .inl tng10))] := hD
  generalize H1 = H at hP hS ⊢
  have hw_8 : (PR 8 1 0 0 1000000 o_7) := hw
  have hw_9 := hw_8
  clear hw
  refine lv_aload_n hx hb dX3_weighLanes_14 rfl (lv_at hl 0 rfl) ?_
  refine va_get (D := D) (ci := 3) (v := .ref oba) (C := RX3) (T := TX3) (N := 2) hx hb hts iT_X3 hown hK hP 0 rfl rfl 0 (by decide) (hts _ tw_2_163) (fun _ h9 => h9) rfl dX3_weighLanes_15 ?_
  refine va_get (D := D) (ci := 1) (v := .ref oba_0) (C := RX1) (T := TX1) (N := 3) hx hb hts iT_X1 hown hK hP 3 rfl rfl 0 (by decide) (hts _ tw_2_21) (fun _ h9 => h9) rfl dX3_weighLanes_18 ?_
  refine lv_iload_n hx hb dX3_weighLanes_21 rfl (lv_at hl 2 rfl) ?_
  refine va_iald hx hb hK hP 4 0 rfl rfl (z_in (by omega) (by omega)) dX3_weighLanes_22 ?_
  refine lv_topi (fun x_10 ex_10 => ?_)
  have zx_10r0 : 0 ≤ x_10.toInt ∧ x_10.toInt ≤ 1000000 := by rw [ex_10]; exact PR.ld hw_9 (by omega) (by omega) (by omega)
  refine lv_istore (lv' := [(8, .int x_10), (0, .ref ob), (1, .ref tn), (2, .int p1), (3, .int p2), (4, .int p3), (5, .long p4), (7, .int 9)]) hx hb dX3_weighLanes_23 hl (by decide) rfl (fun ls hl => ?_)
  refine lv_iload hx hb dX3_weighLanes_25 (lv_at hl 0 rfl) ?_
  refine lv_sipush (v := 1000) hx hb dX3_weighLanes_27 (by decide) ?_
  refine lv_icmp_lt (tgt := 34) hx hb dX3_weighLanes_30 (by decide) (fun h_11 => ?_) (fun h_11 => ?_)
  · skip
    have zh_11 : x_10.toInt < 1000 := z_lt h_11
    refine lv_aload_n hx hb dX3_weighLanes_34 rfl (lv_at hl 1 rfl) ?_
    refine va_get (D := D) (ci := 3) (v := .ref oba) (C := RX3) (T := TX3) (N := 2) hx hb hts iT_X3 hown hK hP 0 rfl rfl 0 (by decide) (hts _ tw_2_163) (fun _ h9 => h9) rfl dX3_weighLanes_35 ?_
    refine lv_aload_n hx hb dX3_weighLanes_38 rfl (lv_at hl 2 rfl) ?_
    refine lv_iload_n hx hb dX3_weighLanes_39 rfl (lv_at hl 3 rfl) ?_
    have hPc := hP.sub (ws' := [(oba, .inr (1, [.ref oba_0, .int o_5, .int o_6])), (oba_0, .inl (k 0, 8, .inl o_7)), (tn, .inr (10, [.int tnv0, .int tnv1, .int tnv2, .ref tn_3, .ref tn_4, .ref tn_5, .ref tn_6, .int tnv7, .int tnv8, .ref tn_9, .ref tn_10, .int tnv11, .ref tn_12, .ref tn_13, .ref tn_14, .ref tn_15, .int tnv16, .ref tn_17, .ref tn_18, .ref tnt])), (tn_3, .inl (k 0, 10, .inl tng3)), (tn_4, .inl (k 0, 10, .inl tng4)), (tn_5, .inl (k 0, 10, .inl tng5)), (tn_9, .inl (k 0, 4, .inl tng9)), (tn_10, .inl (k 0, 4, .inl tng10))]) [3, 4, 5, 6, 7, 8, 9, 10] rfl
    have hDc := hD.sub (ws' := [(oba, .inr (1, [.ref oba_0, .int o_5, .int o_6])), (oba_0, .inl (k 0, 8, .inl o_7)), (tn, .inr (10, [.int tnv0, .int tnv1, .int tnv2, .ref tn_3, .ref tn_4, .ref tn_5, .ref tn_6, .int tnv7, .int tnv8, .ref tn_9, .ref tn_10, .int tnv11, .ref tn_12, .ref tn_13, .ref tn_14, .ref tn_15, .int tnv16, .ref tn_17, .ref tn_18, .ref tnt])), (tn_3, .inl (k 0, 10, .inl tng3)), (tn_4, .inl (k 0, 10, .inl tng4)), (tn_5, .inl (k 0, 10, .inl tng5)), (tn_9, .inl (k 0, 4, .inl tng9)), (tn_10, .inl (k 0, 4, .inl tng10))]) [3, 4, 5, 6, 7, 8, 9, 10] (by decide) rfl
    have hFc := va_free (wc := [(oba, .inr (1, [.ref oba_0, .int o_5, .int o_6])), (oba_0, .inl (k 0, 8, .inl o_7)), (tn, .inr (10, [.int tnv0, .int tnv1, .int tnv2, .ref tn_3, .ref tn_4, .ref tn_5, .ref tn_6, .int tnv7, .int tnv8, .ref tn_9, .ref tn_10, .int tnv11, .ref tn_12, .ref tn_13, .ref tn_14, .ref tn_15, .int tnv16, .ref tn_17, .ref tn_18, .ref tnt])), (tn_3, .inl (k 0, 10, .inl tng3)), (tn_4, .inl (k 0, 10, .inl tng4)), (tn_5, .inl (k 0, 10, .inl tng5)), (tn_9, .inl (k 0, 4, .inl tng9)), (tn_10, .inl (k 0, 4, .inl tng10))]) hD hS hA [3, 4, 5, 6, 7, 8, 9, 10] rfl
    refine va_calli (va_runV (C := RX1) (As := [.ref tn, .int p1]) (rest := []) ⟨hx, hb, hml, hown, hts⟩ (c_X1_wayTo l D k oba tn p1 oba_0 o_5 o_6 o_7 tnv0 tnv1 tnv2 tn_3 tn_4 tn_5 tn_6 tnv7 tnv8 tn_9 tn_10 tnv11 tn_12 tn_13 tn_14 tn_15 tnv16 tn_17 tn_18 tnt tng3 tng4 tng5 tng9 tng10 H.size (show 0 ≤ p1.toInt ∧ p1.toInt ≤ 7 from by omega) hw_9 (show 0 ≤ tnv0.toInt ∧ tnv0.toInt ≤ 8 from by omega) (show 0 ≤ tnv2.toInt ∧ tnv2.toInt ≤ 10 from by omega) (show 0 ≤ tnv8.toInt ∧ tnv8.toInt ≤ 4 from by omega) (show 0 ≤ tnv11.toInt ∧ tnv11.toInt ≤ 6 from by omega) (show 0 ≤ tnv16.toInt ∧ tnv16.toInt ≤ 2 from by omega) hp_tng3_0 hp_tng4_0 hp_tng5_0 hp_tng9_0 hp_tng10_0) (cwV 2 hts (gV tw_5_157 tw_4_96 tw_4_97 tw_1_6 tw_4_98) rfl rfl rfl hdV_X1_wayTo ⟨Nat.le_of_ble_eq_true rfl, Nat.le_of_ble_eq_true rfl⟩) (cz_V hK hPc hDc hN (ci := 1) (q0 := 0) rfl rfl [.ref tn, .int p1]) rfl rfl hl.1 rfl (lv_room (Nat.le_of_ble_eq_true rfl)) dX3_weighLanes_40 ⟨Nat.le_of_ble_eq_true rfl, Nat.le_of_ble_eq_true rfl⟩) hS (fun q _ h => hFc q h) hFc (fun r_12 uZ tZ H1 locs ht hvm hw hB hz1 hk1 hS => ?_)
    obtain ⟨hP1, hK1, hD1⟩ := hB
    rw [ht] at hP1
    obtain ⟨hP, hD⟩ := va_join (wr := [(ob, .inr (3, [.ref oba, .ref ob_1])), (ob_1, .inl (k 2, 1000, .inr (.inl obg1))), (tn_6, .inl (k 0, 10, .inl tng6))]) (w1 := [(oba, .inr (1, [.ref oba_0, .int o_5, .int o_6])), (oba_0, .inl (k 0, 8, .inl o_7)), (tn, .inr (10, [.int tnv0, .int tnv1, .int tnv2, .ref tn_3, .ref tn_4, .ref tn_5, .ref tn_6, .int tnv7, .int tnv8, .ref tn_9, .ref tn_10, .int tnv11, .ref tn_12, .ref tn_13, .ref tn_14, .ref tn_15, .int tnv16, .ref tn_17, .ref tn_18, .ref tnt])), (tn_3, .inl (k 0, 10, .inl tng3)), (tn_4, .inl (k 0, 10, .inl tng4)), (tn_5, .inl (k 0, 10, .inl tng5)), (tn_9, .inl (k 0, 4, .inl tng9)), (tn_10, .inl (k 0, 4, .inl tng10))]) hP hD [3, 4, 5, 6, 7, 8, 9, 10] [0, 1, 2] rfl rfl (by decide) (by decide) hk1 hFc hP1 hD1
    clear hK1 hP1 hD1 hPc hDc hFc
    clear hk1 hz1 ht hvm
    have hP : va_P D vwCl [(ob, .inr (3, [.ref oba, .ref ob_1])), (ob_1, .inl (k 2, 1000, .inr (.inl obg1))), (tn_6, .inl (k 0, 10, .inl tng6)), (oba, .inr (1, [.ref oba_0, .int o_5, .int o_6])), (oba_0, .inl (k 0, 8, .inl o_7)), (tn, .inr (10, [.int tnv0, .int tnv1, .int tnv2, .ref tn_3, .ref tn_4, .ref tn_5, .ref tn_6, .int tnv7, .int tnv8, .ref tn_9, .ref tn_10, .int tnv11, .ref tn_12, .ref tn_13, .ref tn_14, .ref tn_15, .int tnv16, .ref tn_17, .ref tn_18, .ref tnt])), (tn_3, .inl (k 0, 10, .inl tng3)), (tn_4, .inl (k 0, 10, .inl tng4)), (tn_5, .inl (k 0, 10, .inl tng5)), (tn_9, .inl (k 0, 4, .inl tng9)), (tn_10, .inl (k 0, 4, .inl tng10))] H1 := hP
    have hD : va_D A [(ob, .inr (3, [.ref oba, .ref ob_1])), (ob_1, .inl (k 2, 1000, .inr (.inl obg1))), (tn_6, .inl (k 0, 10, .inl tng6)), (oba, .inr (1, [.ref oba_0, .int o_5, .int o_6])), (oba_0, .inl (k 0, 8, .inl o_7)), (tn, .inr (10, [.int tnv0, .int tnv1, .int tnv2, .ref tn_3, .ref tn_4, .ref tn_5, .ref tn_6, .int tnv7, .int tnv8, .ref tn_9, .ref tn_10, .int tnv11, .ref tn_12, .ref tn_13, .ref tn_14, .ref tn_15, .int tnv16, .ref tn_17, .ref tn_18, .ref tnt])), (tn_3, .inl (k 0, 10, .inl tng3)), (tn_4, .inl (k 0, 10, .inl tng4)), (tn_5, .inl (k 0, 10, .inl tng5)), (tn_9, .inl (k 0, 4, .inl tng9)), (tn_10, .inl (k 0, 4, .inl tng10))] := hD
    generalize H1 = H at hP hS ⊢
    have hw_13 : (0 ≤ r_12.toInt ∧ r_12.toInt ≤ 1023) := hw
    have hw_14 := hw_13
    clear hw
    refine lv_iload_n hx hb dX3_weighLanes_43 rfl (lv_at hl 4 rfl) ?_
    refine lv_iconst (v := (-1)) hx hb dX3_weighLanes_44 (by decide) ?_
    refine lv_ixor hx hb dX3_weighLanes_45 ?_
    refine lv_topi (fun x_15 ex_15 => ?_)
    have zrp2 := z_rng p2
    refine lv_iand hx hb dX3_weighLanes_46 ?_
    refine lv_topi (fun x_16 ex_16 => ?_)
    have zrx_15 := z_rng x_15
    have zx_16 : 0 ≤ x_16.toInt ∧ x_16.toInt ≤ r_12.toInt := by rw [ex_16]; exact z_andL (by omega)
    refine lv_istore (lv' := [(9, .int x_16), (8, .int x_10), (0, .ref ob), (1, .ref tn), (2, .int p1), (3, .int p2), (4, .int p3), (5, .long p4), (7, .int 9)]) hx hb dX3_weighLanes_47 hl (by decide) rfl (fun ls hl => ?_)
    refine lv_iload hx hb dX3_weighLanes_49 (lv_at hl 0 rfl) ?_
    refine lv_iload hx hb dX3_weighLanes_51 (lv_at hl 0 rfl) ?_
    refine lv_ineg hx hb dX3_weighLanes_53 ?_
    refine lv_topi (fun x_17 ex_17 => ?_)
    refine lv_iand hx hb dX3_weighLanes_54 ?_
    refine lv_topi (fun x_18 ex_18 => ?_)
    have zrx_17 := z_rng x_17
    have zx_18 : 0 ≤ x_18.toInt ∧ x_18.toInt ≤ x_16.toInt := by rw [ex_18]; exact z_andL (by omega)
    refine lv_iconst (v := 1) hx hb dX3_weighLanes_55 (by decide) ?_
    refine lv_isub hx hb dX3_weighLanes_56 ?_
    refine lv_topi (fun x_19 ex_19 => ?_)
    have zx_19 : x_19.toInt = x_18.toInt - 1 := by rw [ex_19]; exact z_sub rfl rfl (by omega) (by omega)
    have hPc := hP.sub (ws' := []) [] rfl
    have hDc := hD.sub (ws' := []) [] (by decide) rfl
    have hFc := va_free (wc := []) hD hS hA [] rfl
    refine va_calli (va_runS (As := [.int x_19]) (rest := []) ⟨hx, hb, hml, hown, hts⟩ (c_J6_bitCount_0f7a4 l D k x_19 H.size) (va_cwS 1 hts (gS tw_5_158 tw_4_101 tw_1_20 tw_4_102) rfl rfl rfl hdS_J6_bitCount_0f7a4 ⟨Nat.le_of_ble_eq_true rfl, Nat.le_of_ble_eq_true rfl⟩) (cz_S hK hPc hDc hN [.int x_19]) rfl rfl hl.1 rfl (lv_room (Nat.le_of_ble_eq_true rfl)) dX3_weighLanes_57 ⟨Nat.le_of_ble_eq_true rfl, Nat.le_of_ble_eq_true rfl⟩) hS (fun q _ h => hFc q h) hFc (fun r_20 uZ tZ H1 locs ht hvm hw hB hz1 hk1 hS => ?_)
    obtain ⟨hP1, hK1, hD1⟩ := hB
    rw [ht] at hP1
    obtain ⟨hP, hD⟩ := va_join (wr := [(ob, .inr (3, [.ref oba, .ref ob_1])), (ob_1, .inl (k 2, 1000, .inr (.inl obg1))), (tn_6, .inl (k 0, 10, .inl tng6)), (oba, .inr (1, [.ref oba_0, .int o_5, .int o_6])), (oba_0, .inl (k 0, 8, .inl o_7)), (tn, .inr (10, [.int tnv0, .int tnv1, .int tnv2, .ref tn_3, .ref tn_4, .ref tn_5, .ref tn_6, .int tnv7, .int tnv8, .ref tn_9, .ref tn_10, .int tnv11, .ref tn_12, .ref tn_13, .ref tn_14, .ref tn_15, .int tnv16, .ref tn_17, .ref tn_18, .ref tnt])), (tn_3, .inl (k 0, 10, .inl tng3)), (tn_4, .inl (k 0, 10, .inl tng4)), (tn_5, .inl (k 0, 10, .inl tng5)), (tn_9, .inl (k 0, 4, .inl tng9)), (tn_10, .inl (k 0, 4, .inl tng10))]) (w1 := []) hP hD [] [0, 1, 2, 3, 4, 5, 6, 7, 8, 9, 10] rfl rfl (by decide) (by decide) hk1 hFc hP1 hD1
    clear hK1 hP1 hD1 hPc hDc hFc
    clear hk1 hz1 ht hvm
    have hP : va_P D vwCl [(ob, .inr (3, [.ref oba, .ref ob_1])), (ob_1, .inl (k 2, 1000, .inr (.inl obg1))), (tn_6, .inl (k 0, 10, .inl tng6)), (oba, .inr (1, [.ref oba_0, .int o_5, .int o_6])), (oba_0, .inl (k 0, 8, .inl o_7)), (tn, .inr (10, [.int tnv0, .int tnv1, .int tnv2, .ref tn_3, .ref tn_4, .ref tn_5, .ref tn_6, .int tnv7, .int tnv8, .ref tn_9, .ref tn_10, .int tnv11, .ref tn_12, .ref tn_13, .ref tn_14, .ref tn_15, .int tnv16, .ref tn_17, .ref tn_18, .ref tnt])), (tn_3, .inl (k 0, 10, .inl tng3)), (tn_4, .inl (k 0, 10, .inl tng4)), (tn_5, .inl (k 0, 10, .inl tng5)), (tn_9, .inl (k 0, 4, .inl tng9)), (tn_10, .inl (k 0, 4, .inl tng10))] H1 := hP
    have hD : va_D A [(ob, .inr (3, [.ref oba, .ref ob_1])), (ob_1, .inl (k 2, 1000, .inr (.inl obg1))), (tn_6, .inl (k 0, 10, .inl tng6)), (oba, .inr (1, [.ref oba_0, .int o_5, .int o_6])), (oba_0, .inl (k 0, 8, .inl o_7)), (tn, .inr (10, [.int tnv0, .int tnv1, .int tnv2, .ref tn_3, .ref tn_4, .ref tn_5, .ref tn_6, .int tnv7, .int tnv8, .ref tn_9, .ref tn_10, .int tnv11, .ref tn_12, .ref tn_13, .ref tn_14, .ref tn_15, .int tnv16, .ref tn_17, .ref tn_18, .ref tnt])), (tn_3, .inl (k 0, 10, .inl tng3)), (tn_4, .inl (k 0, 10, .inl tng4)), (tn_5, .inl (k 0, 10, .inl tng5)), (tn_9, .inl (k 0, 4, .inl tng9)), (tn_10, .inl (k 0, 4, .inl tng10))] := hD
    generalize H1 = H at hP hS ⊢
    have hw_21 : (0 ≤ r_20.toInt ∧ r_20.toInt ≤ 63) := hw
    have hw_22 := hw_21
    clear hw
    refine lv_istore (lv' := [(10, .int r_20), (9, .int x_16), (8, .int x_10), (0, .ref ob), (1, .ref tn), (2, .int p1), (3, .int p2), (4, .int p3), (5, .long p4), (7, .int 9)]) hx hb dX3_weighLanes_60 hl (by decide) rfl (fun ls hl => ?_)
    refine lv_iload hx hb dX3_weighLanes_62 (lv_at hl 1 rfl) ?_
    refine lv_if_eq (tgt := 81) hx hb dX3_weighLanes_64 (by decide) (fun h_23 => ?_) (fun h_23 => ?_)
    · skip
      have zh_23 : x_16.toInt = 0 := z_eq h_23
      refine lv_aload_n hx hb dX3_weighLanes_81 rfl (lv_at hl 3 rfl) ?_
      refine va_get (D := D) (ci := 3) (v := .ref ob_1) (C := RX3) (T := TX3) (N := 2) hx hb hts iT_X3 hown hK hP 0 rfl rfl 1 (by decide) (hts _ tw_2_164) (fun _ h9 => h9) rfl dX3_weighLanes_82 ?_
      refine lv_iload hx hb dX3_weighLanes_85 (lv_at hl 2 rfl) ?_
      refine lv_dup2_11 hx hb dX3_weighLanes_87 rfl rfl ?_
      refine va_lald hx hb hK hP 1 2 rfl rfl (z_in (by omega) (by omega)) dX3_weighLanes_88 ?_
      refine lv_topl (fun x_24 ex_24 => ?_)
      refine lv_lload hx hb dX3_weighLanes_89 (lv_at hl 8 rfl) ?_
      refine lv_ladd hx hb dX3_weighLanes_91 ?_
      refine lv_topl (fun x_25 ex_25 => ?_)
      refine va_last hx hb hK hP hD hS 1 2 rfl rfl (z_in (by omega) (by omega)) dX3_weighLanes_92 (fun H locs hP hD hS => ?_)
      obtain ⟨g_26, eg_26⟩ : ∃ z : Nat → Int64, vp_updL obg1 x_10.toNatClampNeg x_25 = z := ⟨_, rfl⟩
      have hP : va_P D vwCl [(ob, .inr (3, [.ref oba, .ref ob_1])), (ob_1, .inl (k 2, 1000, .inr (.inl (vp_updL obg1 x_10.toNatClampNeg x_25)))), (tn_6, .inl (k 0, 10, .inl tng6)), (oba, .inr (1, [.ref oba_0, .int o_5, .int o_6])), (oba_0, .inl (k 0, 8, .inl o_7)), (tn, .inr (10, [.int tnv0, .int tnv1, .int tnv2, .ref tn_3, .ref tn_4, .ref tn_5, .ref tn_6, .int tnv7, .int tnv8, .ref tn_9, .ref tn_10, .int tnv11, .ref tn_12, .ref tn_13, .ref tn_14, .ref tn_15, .int tnv16, .ref tn_17, .ref tn_18, .ref tnt])), (tn_3, .inl (k 0, 10, .inl tng3)), (tn_4, .inl (k 0, 10, .inl tng4)), (tn_5, .inl (k 0, 10, .inl tng5)), (tn_9, .inl (k 0, 4, .inl tng9)), (tn_10, .inl (k 0, 4, .inl tng10))] H := hP
      have hD : va_D A [(ob, .inr (3, [.ref oba, .ref ob_1])), (ob_1, .inl (k 2, 1000, .inr (.inl (vp_updL obg1 x_10.toNatClampNeg x_25)))), (tn_6, .inl (k 0, 10, .inl tng6)), (oba, .inr (1, [.ref oba_0, .int o_5, .int o_6])), (oba_0, .inl (k 0, 8, .inl o_7)), (tn, .inr (10, [.int tnv0, .int tnv1, .int tnv2, .ref tn_3, .ref tn_4, .ref tn_5, .ref tn_6, .int tnv7, .int tnv8, .ref tn_9, .ref tn_10, .int tnv11, .ref tn_12, .ref tn_13, .ref tn_14, .ref tn_15, .int tnv16, .ref tn_17, .ref tn_18, .ref tnt])), (tn_3, .inl (k 0, 10, .inl tng3)), (tn_4, .inl (k 0, 10, .inl tng4)), (tn_5, .inl (k 0, 10, .inl tng5)), (tn_9, .inl (k 0, 4, .inl tng9)), (tn_10, .inl (k 0, 4, .inl tng10))] := hD
      rw [eg_26] at hP hD
      have hP9 := hP.sub (ws' := [(ob, .inr (3, [.ref oba, .ref ob_1])), (oba, .inr (1, [.ref oba_0, .int o_5, .int o_6])), (oba_0, .inl (k 0, 8, .inl o_7)), (ob_1, .inl (k 2, 1000, .inr (.inl g_26))), (tn, .inr (10, [.int tnv0, .int tnv1, .int tnv2, .ref tn_3, .ref tn_4, .ref tn_5, .ref tn_6, .int tnv7, .int tnv8, .ref tn_9, .ref tn_10, .int tnv11, .ref tn_12, .ref tn_13, .ref tn_14, .ref tn_15, .int tnv16, .ref tn_17, .ref tn_18, .ref tnt])), (tn_3, .inl (k 0, 10, .inl tng3)), (tn_4, .inl (k 0, 10, .inl tng4)), (tn_5, .inl (k 0, 10, .inl tng5)), (tn_6, .inl (k 0, 10, .inl tng6)), (tn_9, .inl (k 0, 4, .inl tng9)), (tn_10, .inl (k 0, 4, .inl tng10))]) [0, 3, 4, 1, 5, 6, 7, 8, 2, 9, 10] rfl
      have hD9 := hD.sub (ws' := [(ob, .inr (3, [.ref oba, .ref ob_1])), (oba, .inr (1, [.ref oba_0, .int o_5, .int o_6])), (oba_0, .inl (k 0, 8, .inl o_7)), (ob_1, .inl (k 2, 1000, .inr (.inl g_26))), (tn, .inr (10, [.int tnv0, .int tnv1, .int tnv2, .ref tn_3, .ref tn_4, .ref tn_5, .ref tn_6, .int tnv7, .int tnv8, .ref tn_9, .ref tn_10, .int tnv11, .ref tn_12, .ref tn_13, .ref tn_14, .ref tn_15, .int tnv16, .ref tn_17, .ref tn_18, .ref tnt])), (tn_3, .inl (k 0, 10, .inl tng3)), (tn_4, .inl (k 0, 10, .inl tng4)), (tn_5, .inl (k 0, 10, .inl tng5)), (tn_6, .inl (k 0, 10, .inl tng6)), (tn_9, .inl (k 0, 4, .inl tng9)), (tn_10, .inl (k 0, 4, .inl tng10))]) [0, 3, 4, 1, 5, 6, 7, 8, 2, 9, 10] (by decide) rfl
      exact W.vret hx hb hr (fun tZ ht hW => ⟨⟨(o_5, o_6, o_7, g_26), rfl, hw_9, by rw [ht]; exact hP9, va_K.moved hW.alike hK, hD9⟩, hS.F ht⟩) hS.2.2 dX3_weighLanes_93
    · skip
      have zh_23 : ¬ x_16.toInt = 0 := z_ne h_23
      refine lv_iload hx hb dX3_weighLanes_67 (lv_at hl 0 rfl) ?_
      refine lv_bipush (v := 10) hx hb dX3_weighLanes_69 (by decide) ?_
      refine lv_icmp_ge (tgt := 81) hx hb dX3_weighLanes_71 (by decide) (fun h_27 => ?_) (fun h_27 => ?_)
      · skip
        have zh_27 : 10 ≤ r_20.toInt := z_le h_27
        refine lv_aload_n hx hb dX3_weighLanes_81 rfl (lv_at hl 3 rfl) ?_
        refine va_get (D := D) (ci := 3) (v := .ref ob_1) (C := RX3) (T := TX3) (N := 2) hx hb hts iT_X3 hown hK hP 0 rfl rfl 1 (by decide) (hts _ tw_2_164) (fun _ h9 => h9) rfl dX3_weighLanes_82 ?_
        refine lv_iload hx hb dX3_weighLanes_85 (lv_at hl 2 rfl) ?_
        refine lv_dup2_11 hx hb dX3_weighLanes_87 rfl rfl ?_
        refine va_lald hx hb hK hP 1 2 rfl rfl (z_in (by omega) (by omega)) dX3_weighLanes_88 ?_
        refine lv_topl (fun x_28 ex_28 => ?_)
        refine lv_lload hx hb dX3_weighLanes_89 (lv_at hl 8 rfl) ?_
        refine lv_ladd hx hb dX3_weighLanes_91 ?_
        refine lv_topl (fun x_29 ex_29 => ?_)
        refine va_last hx hb hK hP hD hS 1 2 rfl rfl (z_in (by omega) (by omega)) dX3_weighLanes_92 (fun H locs hP hD hS => ?_)
        obtain ⟨g_30, eg_30⟩ : ∃ z : Nat → Int64, vp_updL obg1 x_10.toNatClampNeg x_29 = z := ⟨_, rfl⟩
        have hP : va_P D vwCl [(ob, .inr (3, [.ref oba, .ref ob_1])), (ob_1, .inl (k 2, 1000, .inr (.inl (vp_updL obg1 x_10.toNatClampNeg x_29)))), (tn_6, .inl (k 0, 10, .inl tng6)), (oba, .inr (1, [.ref oba_0, .int o_5, .int o_6])), (oba_0, .inl (k 0, 8, .inl o_7)), (tn, .inr (10, [.int tnv0, .int tnv1, .int tnv2, .ref tn_3, .ref tn_4, .ref tn_5, .ref tn_6, .int tnv7, .int tnv8, .ref tn_9, .ref tn_10, .int tnv11, .ref tn_12, .ref tn_13, .ref tn_14, .ref tn_15, .int tnv16, .ref tn_17, .ref tn_18, .ref tnt])), (tn_3, .inl (k 0, 10, .inl tng3)), (tn_4, .inl (k 0, 10, .inl tng4)), (tn_5, .inl (k 0, 10, .inl tng5)), (tn_9, .inl (k 0, 4, .inl tng9)), (tn_10, .inl (k 0, 4, .inl tng10))] H := hP
        have hD : va_D A [(ob, .inr (3, [.ref oba, .ref ob_1])), (ob_1, .inl (k 2, 1000, .inr (.inl (vp_updL obg1 x_10.toNatClampNeg x_29)))), (tn_6, .inl (k 0, 10, .inl tng6)), (oba, .inr (1, [.ref oba_0, .int o_5, .int o_6])), (oba_0, .inl (k 0, 8, .inl o_7)), (tn, .inr (10, [.int tnv0, .int tnv1, .int tnv2, .ref tn_3, .ref tn_4, .ref tn_5, .ref tn_6, .int tnv7, .int tnv8, .ref tn_9, .ref tn_10, .int tnv11, .ref tn_12, .ref tn_13, .ref tn_14, .ref tn_15, .int tnv16, .ref tn_17, .ref tn_18, .ref tnt])), (tn_3, .inl (k 0, 10, .inl tng3)), (tn_4, .inl (k 0, 10, .inl tng4)), (tn_5, .inl (k 0, 10, .inl tng5)), (tn_9, .inl (k 0, 4, .inl tng9)), (tn_10, .inl (k 0, 4, .inl tng10))] := hD
        rw [eg_30] at hP hD
        have hP9 := hP.sub (ws' := [(ob, .inr (3, [.ref oba, .ref ob_1])), (oba, .inr (1, [.ref oba_0, .int o_5, .int o_6])), (oba_0, .inl (k 0, 8, .inl o_7)), (ob_1, .inl (k 2, 1000, .inr (.inl g_30))), (tn, .inr (10, [.int tnv0, .int tnv1, .int tnv2, .ref tn_3, .ref tn_4, .ref tn_5, .ref tn_6, .int tnv7, .int tnv8, .ref tn_9, .ref tn_10, .int tnv11, .ref tn_12, .ref tn_13, .ref tn_14, .ref tn_15, .int tnv16, .ref tn_17, .ref tn_18, .ref tnt])), (tn_3, .inl (k 0, 10, .inl tng3)), (tn_4, .inl (k 0, 10, .inl tng4)), (tn_5, .inl (k 0, 10, .inl tng5)), (tn_6, .inl (k 0, 10, .inl tng6)), (tn_9, .inl (k 0, 4, .inl tng9)), (tn_10, .inl (k 0, 4, .inl tng10))]) [0, 3, 4, 1, 5, 6, 7, 8, 2, 9, 10] rfl
        have hD9 := hD.sub (ws' := [(ob, .inr (3, [.ref oba, .ref ob_1])), (oba, .inr (1, [.ref oba_0, .int o_5, .int o_6])), (oba_0, .inl (k 0, 8, .inl o_7)), (ob_1, .inl (k 2, 1000, .inr (.inl g_30))), (tn, .inr (10, [.int tnv0, .int tnv1, .int tnv2, .ref tn_3, .ref tn_4, .ref tn_5, .ref tn_6, .int tnv7, .int tnv8, .ref tn_9, .ref tn_10, .int tnv11, .ref tn_12, .ref tn_13, .ref tn_14, .ref tn_15, .int tnv16, .ref tn_17, .ref tn_18, .ref tnt])), (tn_3, .inl (k 0, 10, .inl tng3)), (tn_4, .inl (k 0, 10, .inl tng4)), (tn_5, .inl (k 0, 10, .inl tng5)), (tn_6, .inl (k 0, 10, .inl tng6)), (tn_9, .inl (k 0, 4, .inl tng9)), (tn_10, .inl (k 0, 4, .inl tng10))]) [0, 3, 4, 1, 5, 6, 7, 8, 2, 9, 10] (by decide) rfl
        exact W.vret hx hb hr (fun tZ ht hW => ⟨⟨(o_5, o_6, o_7, g_30), rfl, hw_9, by rw [ht]; exact hP9, va_K.moved hW.alike hK, hD9⟩, hS.F ht⟩) hS.2.2 dX3_weighLanes_93
      · skip
        have zh_27 : r_20.toInt < 10 := z_nle h_27
        refine lv_iload hx hb dX3_weighLanes_74 (lv_at hl 9 rfl) ?_
        refine lv_bipush (v := 10) hx hb dX3_weighLanes_76 (by decide) ?_
        refine lv_icmp_lt (tgt := 94) hx hb dX3_weighLanes_78 (by decide) (fun _ => ?_) (fun c9 => absurd c9 (by decide))
        refine lv_iconst (v := 1) hx hb dX3_weighLanes_94 (by decide) ?_
        refine lv_iload hx hb dX3_weighLanes_95 (lv_at hl 0 rfl) ?_
        refine lv_ishl hx hb dX3_weighLanes_97 ?_
        refine lv_topi (fun x_31 ex_31 => ?_)
        have zx_31 : 1 ≤ x_31.toInt ∧ x_31.toInt ≤ 512 := by rw [ex_31]; exact z_shl1 9 512 rfl (by decide) (by omega) (by omega)
        refine lv_istore (lv' := [(11, .int x_31), (10, .int r_20), (9, .int x_16), (8, .int x_10), (0, .ref ob), (1, .ref tn), (2, .int p1), (3, .int p2), (4, .int p3), (5, .long p4), (7, .int 9)]) hx hb dX3_weighLanes_98 hl (by decide) rfl (fun ls hl => ?_)
        refine lv_lload hx hb dX3_weighLanes_100 (lv_at hl 9 rfl) ?_
        refine lv_ldc2 (v := 10) hx hb hown (hts _ tw_5_159) dX3_weighLanes_102 ?_
        refine lv_ldiv hx hb dX3_weighLanes_105 (by decide) ?_
        refine lv_topl (fun x_32 ex_32 => ?_)
        refine lv_lstore (lv' := [(12, .long x_32), (11, .int x_31), (10, .int r_20), (9, .int x_16), (8, .int x_10), (0, .ref ob), (1, .ref tn), (2, .int p1), (3, .int p2), (4, .int p3), (5, .long p4), (7, .int 9)]) hx hb dX3_weighLanes_106 hl (by decide) rfl (fun ls hl => ?_)
        refine lv_aload_n hx hb dX3_weighLanes_108 rfl (lv_at hl 5 rfl) ?_
        refine lv_aload_n hx hb dX3_weighLanes_109 rfl (lv_at hl 6 rfl) ?_
        refine lv_iload_n hx hb dX3_weighLanes_110 rfl (lv_at hl 7 rfl) ?_
        refine lv_iload_n hx hb dX3_weighLanes_111 rfl (lv_at hl 8 rfl) ?_
        refine lv_iload hx hb dX3_weighLanes_112 (lv_at hl 1 rfl) ?_
        refine lv_ior hx hb dX3_weighLanes_114 ?_
        refine lv_topi (fun x_33 ex_33 => ?_)
        refine lv_iload hx hb dX3_weighLanes_115 (lv_at hl 9 rfl) ?_
        refine lv_lload hx hb dX3_weighLanes_117 (lv_at hl 0 rfl) ?_
        refine lv_bipush (v := 10) hx hb dX3_weighLanes_119 (by decide) ?_
        refine lv_aload_n hx hb dX3_weighLanes_121 rfl (lv_at hl 6 rfl) ?_
        refine va_get (D := D) (ci := 10) (v := .ref tn_6) (C := RX10) (T := TX10) (N := 20) hx hb hts iT_X10 hown hK hP 5 rfl rfl 6 (by decide) (hts _ tw_1_98) (fun _ h9 => h9) rfl dX3_weighLanes_122 ?_
        refine lv_iload hx hb dX3_weighLanes_125 (lv_at hl 2 rfl) ?_
        refine va_iald hx hb hK hP 2 0 rfl rfl (z_in (by omega) (by omega)) dX3_weighLanes_127 ?_
        refine lv_topi (fun x_34 ex_34 => ?_)
        have zx_34r0 : 0 ≤ x_34.toInt ∧ x_34.toInt ≤ 10 := by rw [ex_34]; exact PR.ld hp_tng6_0 (by omega) (by omega) (by omega)
        refine lv_isub hx hb dX3_weighLanes_128 ?_
        refine lv_topi (fun x_35 ex_35 => ?_)
        have zx_35 : x_35.toInt = 10 - x_34.toInt := by rw [ex_35]; exact z_sub rfl rfl (by omega) (by omega)
        refine lv_i2l (v := x_35.toInt64) hx hb dX3_weighLanes_129 rfl ?_
        refine lv_lmul hx hb dX3_weighLanes_130 ?_
        refine lv_topl (fun x_36 ex_36 => ?_)
        refine lv_iload hx hb dX3_weighLanes_131 (lv_at hl 11 rfl) ?_
        refine lv_iconst (v := 1) hx hb dX3_weighLanes_133 (by decide) ?_
        refine lv_iadd hx hb dX3_weighLanes_134 ?_
        refine lv_topi (fun x_37 ex_37 => ?_)
        obtain rfl : x_37 = 10 := ex_37.trans (by decide)
        have hPc := hP.sub (ws' := [(ob, .inr (3, [.ref oba, .ref ob_1])), (oba, .inr (1, [.ref oba_0, .int o_5, .int o_6])), (oba_0, .inl (k 0, 8, .inl o_7)), (ob_1, .inl (k 2, 1000, .inr (.inl obg1))), (tn, .inr (10, [.int tnv0, .int tnv1, .int tnv2, .ref tn_3, .ref tn_4, .ref tn_5, .ref tn_6, .int tnv7, .int tnv8, .ref tn_9, .ref tn_10, .int tnv11, .ref tn_12, .ref tn_13, .ref tn_14, .ref tn_15, .int tnv16, .ref tn_17, .ref tn_18, .ref tnt])), (tn_3, .inl (k 0, 10, .inl tng3)), (tn_4, .inl (k 0, 10, .inl tng4)), (tn_5, .inl (k 0, 10, .inl tng5)), (tn_9, .inl (k 0, 4, .inl tng9)), (tn_10, .inl (k 0, 4, .inl tng10))]) [0, 3, 4, 1, 5, 6, 7, 8, 9, 10] rfl
        have hDc := hD.sub (ws' := [(ob, .inr (3, [.ref oba, .ref ob_1])), (oba, .inr (1, [.ref oba_0, .int o_5, .int o_6])), (oba_0, .inl (k 0, 8, .inl o_7)), (ob_1, .inl (k 2, 1000, .inr (.inl obg1))), (tn, .inr (10, [.int tnv0, .int tnv1, .int tnv2, .ref tn_3, .ref tn_4, .ref tn_5, .ref tn_6, .int tnv7, .int tnv8, .ref tn_9, .ref tn_10, .int tnv11, .ref tn_12, .ref tn_13, .ref tn_14, .ref tn_15, .int tnv16, .ref tn_17, .ref tn_18, .ref tnt])), (tn_3, .inl (k 0, 10, .inl tng3)), (tn_4, .inl (k 0, 10, .inl tng4)), (tn_5, .inl (k 0, 10, .inl tng5)), (tn_9, .inl (k 0, 4, .inl tng9)), (tn_10, .inl (k 0, 4, .inl tng10))]) [0, 3, 4, 1, 5, 6, 7, 8, 9, 10] (by decide) rfl
        have hFc := va_free (wc := [(ob, .inr (3, [.ref oba, .ref ob_1])), (oba, .inr (1, [.ref oba_0, .int o_5, .int o_6])), (oba_0, .inl (k 0, 8, .inl o_7)), (ob_1, .inl (k 2, 1000, .inr (.inl obg1))), (tn, .inr (10, [.int tnv0, .int tnv1, .int tnv2, .ref tn_3, .ref tn_4, .ref tn_5, .ref tn_6, .int tnv7, .int tnv8, .ref tn_9, .ref tn_10, .int tnv11, .ref tn_12, .ref tn_13, .ref tn_14, .ref tn_15, .int tnv16, .ref tn_17, .ref tn_18, .ref tnt])), (tn_3, .inl (k 0, 10, .inl tng3)), (tn_4, .inl (k 0, 10, .inl tng4)), (tn_5, .inl (k 0, 10, .inl tng5)), (tn_9, .inl (k 0, 4, .inl tng9)), (tn_10, .inl (k 0, 4, .inl tng10))]) hD hS hA [0, 3, 4, 1, 5, 6, 7, 8, 9, 10] rfl
        refine va_callv (va_runV (C := RX3) (As := [.ref tn, .int p1, .int x_33, .int p3, .long x_36, .int 10]) (rest := []) ⟨hx, hb, hml, hown, hts⟩ (c_X3_weighLanes_0 l D k ob tn p1 x_33 p3 x_36 oba ob_1 oba_0 o_5 o_6 o_7 obg1 tnv0 tnv1 tnv2 tn_3 tn_4 tn_5 tn_6 tnv7 tnv8 tn_9 tn_10 tnv11 tn_12 tn_13 tn_14 tn_15 tnv16 tn_17 tn_18 tnt tng3 tng4 tng5 tng9 tng10 H.size (show 0 ≤ p1.toInt ∧ p1.toInt ≤ 7 from by omega) hw_9 (show 0 ≤ tnv0.toInt ∧ tnv0.toInt ≤ 8 from by omega) (show 0 ≤ tnv2.toInt ∧ tnv2.toInt ≤ 10 from by omega) (show 0 ≤ tnv8.toInt ∧ tnv8.toInt ≤ 4 from by omega) (show 0 ≤ tnv11.toInt ∧ tnv11.toInt ≤ 6 from by omega) (show 0 ≤ tnv16.toInt ∧ tnv16.toInt ≤ 2 from by omega) hp_tng3_0 hp_tng4_0 hp_tng5_0 hp_tng9_0 hp_tng10_0) (cwV 6 hts (gV tw_5_151 tw_5_153 tw_p_34 tw_1_12 tw_5_154) rfl rfl rfl hdV_X3_weighLanes ⟨Nat.le_of_ble_eq_true rfl, Nat.le_of_ble_eq_true rfl⟩) (cz_V hK hPc hDc hN (ci := 3) (q0 := 0) rfl rfl [.ref tn, .int p1, .int x_33, .int p3, .long x_36, .int 10]) rfl rfl hl.1 rfl (lv_room (Nat.le_of_ble_eq_true rfl)) dX3_weighLanes_135 ⟨Nat.le_of_ble_eq_true rfl, Nat.le_of_ble_eq_true rfl⟩) hS (fun q _ h => hFc q h) hFc (fun uZ tZ H1 locs ht hvm hw hB hz1 hk1 hS => ?_)
        obtain ⟨o_39, o_40, o_41, o_42⟩ := uZ
        obtain ⟨hP1, hK1, hD1⟩ := hB
        rw [ht] at hP1
        obtain ⟨hP, hD⟩ := va_join (wr := [(tn_6, .inl (k 0, 10, .inl tng6))]) (w1 := [(ob, .inr (3, [.ref oba, .ref ob_1])), (oba, .inr (1, [.ref oba_0, .int o_39, .int o_40])), (oba_0, .inl (k 0, 8, .inl o_41)), (ob_1, .inl (k 2, 1000, .inr (.inl o_42))), (tn, .inr (10, [.int tnv0, .int tnv1, .int tnv2, .ref tn_3, .ref tn_4, .ref tn_5, .ref tn_6, .int tnv7, .int tnv8, .ref tn_9, .ref tn_10, .int tnv11, .ref tn_12, .ref tn_13, .ref tn_14, .ref tn_15, .int tnv16, .ref tn_17, .ref tn_18, .ref tnt])), (tn_3, .inl (k 0, 10, .inl tng3)), (tn_4, .inl (k 0, 10, .inl tng4)), (tn_5, .inl (k 0, 10, .inl tng5)), (tn_9, .inl (k 0, 4, .inl tng9)), (tn_10, .inl (k 0, 4, .inl tng10))]) hP hD [0, 3, 4, 1, 5, 6, 7, 8, 9, 10] [2] rfl rfl (by decide) (by decide) hk1 hFc hP1 hD1
        clear hK1 hP1 hD1 hPc hDc hFc
        clear hk1 hz1 ht hvm
        have hP : va_P D vwCl [(tn_6, .inl (k 0, 10, .inl tng6)), (ob, .inr (3, [.ref oba, .ref ob_1])), (oba, .inr (1, [.ref oba_0, .int o_39, .int o_40])), (oba_0, .inl (k 0, 8, .inl o_41)), (ob_1, .inl (k 2, 1000, .inr (.inl o_42))), (tn, .inr (10, [.int tnv0, .int tnv1, .int tnv2, .ref tn_3, .ref tn_4, .ref tn_5, .ref tn_6, .int tnv7, .int tnv8, .ref tn_9, .ref tn_10, .int tnv11, .ref tn_12, .ref tn_13, .ref tn_14, .ref tn_15, .int tnv16, .ref tn_17, .ref tn_18, .ref tnt])), (tn_3, .inl (k 0, 10, .inl tng3)), (tn_4, .inl (k 0, 10, .inl tng4)), (tn_5, .inl (k 0, 10, .inl tng5)), (tn_9, .inl (k 0, 4, .inl tng9)), (tn_10, .inl (k 0, 4, .inl tng10))] H1 := hP
        have hD : va_D A [(tn_6, .inl (k 0, 10, .inl tng6)), (ob, .inr (3, [.ref oba, .ref ob_1])), (oba, .inr (1, [.ref oba_0, .int o_39, .int o_40])), (oba_0, .inl (k 0, 8, .inl o_41)), (ob_1, .inl (k 2, 1000, .inr (.inl o_42))), (tn, .inr (10, [.int tnv0, .int tnv1, .int tnv2, .ref tn_3, .ref tn_4, .ref tn_5, .ref tn_6, .int tnv7, .int tnv8, .ref tn_9, .ref tn_10, .int tnv11, .ref tn_12, .ref tn_13, .ref tn_14, .ref tn_15, .int tnv16, .ref tn_17, .ref tn_18, .ref tnt])), (tn_3, .inl (k 0, 10, .inl tng3)), (tn_4, .inl (k 0, 10, .inl tng4)), (tn_5, .inl (k 0, 10, .inl tng5)), (tn_9, .inl (k 0, 4, .inl tng9)), (tn_10, .inl (k 0, 4, .inl tng10))] := hD
        generalize H1 = H at hP hS ⊢
        have hw_43 : (PR 8 1 0 0 1000000 o_41) := hw
        have hw_44 := hw_43
        clear hw
        refine lv_aload_n hx hb dX3_weighLanes_138 rfl (lv_at hl 5 rfl) ?_
        refine lv_aload_n hx hb dX3_weighLanes_139 rfl (lv_at hl 6 rfl) ?_
        refine lv_iload_n hx hb dX3_weighLanes_140 rfl (lv_at hl 7 rfl) ?_
        refine lv_iload_n hx hb dX3_weighLanes_141 rfl (lv_at hl 8 rfl) ?_
        refine lv_iload hx hb dX3_weighLanes_142 (lv_at hl 1 rfl) ?_
        refine lv_ior hx hb dX3_weighLanes_144 ?_
        refine lv_topi (fun x_45 ex_45 => ?_)
        obtain rfl : x_33 = x_45 := ex_33.trans ex_45.symm
        refine lv_iload hx hb dX3_weighLanes_145 (lv_at hl 9 rfl) ?_
        refine lv_iload hx hb dX3_weighLanes_147 (lv_at hl 1 rfl) ?_
        refine lv_ior hx hb dX3_weighLanes_149 ?_
        refine lv_topi (fun x_46 ex_46 => ?_)
        have zrp3 := z_rng p3
        refine lv_lload hx hb dX3_weighLanes_150 (lv_at hl 0 rfl) ?_
        refine lv_aload_n hx hb dX3_weighLanes_152 rfl (lv_at hl 6 rfl) ?_
        refine va_get (D := D) (ci := 10) (v := .ref tn_6) (C := RX10) (T := TX10) (N := 20) hx hb hts iT_X10 hown hK hP 5 rfl rfl 6 (by decide) (hts _ tw_1_98) (fun _ h9 => h9) rfl dX3_weighLanes_153 ?_
        refine lv_iload hx hb dX3_weighLanes_156 (lv_at hl 2 rfl) ?_
        refine va_iald hx hb hK hP 0 0 rfl rfl (z_in (by omega) (by omega)) dX3_weighLanes_158 ?_
        refine lv_topi (fun x_47 ex_47 => ?_)
        obtain rfl : x_34 = x_47 := ex_34.trans ex_47.symm
        refine lv_i2l (v := x_34.toInt64) hx hb dX3_weighLanes_159 rfl ?_
        refine lv_lmul hx hb dX3_weighLanes_160 ?_
        refine lv_topl (fun x_48 ex_48 => ?_)
        refine lv_iload hx hb dX3_weighLanes_161 (lv_at hl 11 rfl) ?_
        refine lv_iconst (v := 1) hx hb dX3_weighLanes_163 (by decide) ?_
        refine lv_iadd hx hb dX3_weighLanes_164 ?_
        refine lv_topi (fun x_49 ex_49 => ?_)
        obtain rfl : x_49 = 10 := ex_49.trans (by decide)
        have hPc := hP.sub (ws' := [(ob, .inr (3, [.ref oba, .ref ob_1])), (oba, .inr (1, [.ref oba_0, .int o_39, .int o_40])), (oba_0, .inl (k 0, 8, .inl o_41)), (ob_1, .inl (k 2, 1000, .inr (.inl o_42))), (tn, .inr (10, [.int tnv0, .int tnv1, .int tnv2, .ref tn_3, .ref tn_4, .ref tn_5, .ref tn_6, .int tnv7, .int tnv8, .ref tn_9, .ref tn_10, .int tnv11, .ref tn_12, .ref tn_13, .ref tn_14, .ref tn_15, .int tnv16, .ref tn_17, .ref tn_18, .ref tnt])), (tn_3, .inl (k 0, 10, .inl tng3)), (tn_4, .inl (k 0, 10, .inl tng4)), (tn_5, .inl (k 0, 10, .inl tng5)), (tn_9, .inl (k 0, 4, .inl tng9)), (tn_10, .inl (k 0, 4, .inl tng10))]) [1, 2, 3, 4, 5, 6, 7, 8, 9, 10] rfl
        have hDc := hD.sub (ws' := [(ob, .inr (3, [.ref oba, .ref ob_1])), (oba, .inr (1, [.ref oba_0, .int o_39, .int o_40])), (oba_0, .inl (k 0, 8, .inl o_41)), (ob_1, .inl (k 2, 1000, .inr (.inl o_42))), (tn, .inr (10, [.int tnv0, .int tnv1, .int tnv2, .ref tn_3, .ref tn_4, .ref tn_5, .ref tn_6, .int tnv7, .int tnv8, .ref tn_9, .ref tn_10, .int tnv11, .ref tn_12, .ref tn_13, .ref tn_14, .ref tn_15, .int tnv16, .ref tn_17, .ref tn_18, .ref tnt])), (tn_3, .inl (k 0, 10, .inl tng3)), (tn_4, .inl (k 0, 10, .inl tng4)), (tn_5, .inl (k 0, 10, .inl tng5)), (tn_9, .inl (k 0, 4, .inl tng9)), (tn_10, .inl (k 0, 4, .inl tng10))]) [1, 2, 3, 4, 5, 6, 7, 8, 9, 10] (by decide) rfl
        have hFc := va_free (wc := [(ob, .inr (3, [.ref oba, .ref ob_1])), (oba, .inr (1, [.ref oba_0, .int o_39, .int o_40])), (oba_0, .inl (k 0, 8, .inl o_41)), (ob_1, .inl (k 2, 1000, .inr (.inl o_42))), (tn, .inr (10, [.int tnv0, .int tnv1, .int tnv2, .ref tn_3, .ref tn_4, .ref tn_5, .ref tn_6, .int tnv7, .int tnv8, .ref tn_9, .ref tn_10, .int tnv11, .ref tn_12, .ref tn_13, .ref tn_14, .ref tn_15, .int tnv16, .ref tn_17, .ref tn_18, .ref tnt])), (tn_3, .inl (k 0, 10, .inl tng3)), (tn_4, .inl (k 0, 10, .inl tng4)), (tn_5, .inl (k 0, 10, .inl tng5)), (tn_9, .inl (k 0, 4, .inl tng9)), (tn_10, .inl (k 0, 4, .inl tng10))]) hD hS hA [1, 2, 3, 4, 5, 6, 7, 8, 9, 10] rfl
        refine va_callv (va_runV (C := RX3) (As := [.ref tn, .int p1, .int x_33, .int x_46, .long x_48, .int 10]) (rest := []) ⟨hx, hb, hml, hown, hts⟩ (c_X3_weighLanes_0 l D k ob tn p1 x_33 x_46 x_48 oba ob_1 oba_0 o_39 o_40 o_41 o_42 tnv0 tnv1 tnv2 tn_3 tn_4 tn_5 tn_6 tnv7 tnv8 tn_9 tn_10 tnv11 tn_12 tn_13 tn_14 tn_15 tnv16 tn_17 tn_18 tnt tng3 tng4 tng5 tng9 tng10 H.size (show 0 ≤ p1.toInt ∧ p1.toInt ≤ 7 from by omega) hw_44 (show 0 ≤ tnv0.toInt ∧ tnv0.toInt ≤ 8 from by omega) (show 0 ≤ tnv2.toInt ∧ tnv2.toInt ≤ 10 from by omega) (show 0 ≤ tnv8.toInt ∧ tnv8.toInt ≤ 4 from by omega) (show 0 ≤ tnv11.toInt ∧ tnv11.toInt ≤ 6 from by omega) (show 0 ≤ tnv16.toInt ∧ tnv16.toInt ≤ 2 from by omega) hp_tng3_0 hp_tng4_0 hp_tng5_0 hp_tng9_0 hp_tng10_0) (cwV 6 hts (gV tw_5_151 tw_5_153 tw_p_34 tw_1_12 tw_5_154) rfl rfl rfl hdV_X3_weighLanes ⟨Nat.le_of_ble_eq_true rfl, Nat.le_of_ble_eq_true rfl⟩) (cz_V hK hPc hDc hN (ci := 3) (q0 := 0) rfl rfl [.ref tn, .int p1, .int x_33, .int x_46, .long x_48, .int 10]) rfl rfl hl.1 rfl (lv_room (Nat.le_of_ble_eq_true rfl)) dX3_weighLanes_165 ⟨Nat.le_of_ble_eq_true rfl, Nat.le_of_ble_eq_true rfl⟩) hS (fun q _ h => hFc q h) hFc (fun uZ tZ H1 locs ht hvm hw hB hz1 hk1 hS => ?_)
        obtain ⟨o_51, o_52, o_53, o_54⟩ := uZ
        obtain ⟨hP1, hK1, hD1⟩ := hB
        rw [ht] at hP1
        obtain ⟨hP, hD⟩ := va_join (wr := [(tn_6, .inl (k 0, 10, .inl tng6))]) (w1 := [(ob, .inr (3, [.ref oba, .ref ob_1])), (oba, .inr (1, [.ref oba_0, .int o_51, .int o_52])), (oba_0, .inl (k 0, 8, .inl o_53)), (ob_1, .inl (k 2, 1000, .inr (.inl o_54))), (tn, .inr (10, [.int tnv0, .int tnv1, .int tnv2, .ref tn_3, .ref tn_4, .ref tn_5, .ref tn_6, .int tnv7, .int tnv8, .ref tn_9, .ref tn_10, .int tnv11, .ref tn_12, .ref tn_13, .ref tn_14, .ref tn_15, .int tnv16, .ref tn_17, .ref tn_18, .ref tnt])), (tn_3, .inl (k 0, 10, .inl tng3)), (tn_4, .inl (k 0, 10, .inl tng4)), (tn_5, .inl (k 0, 10, .inl tng5)), (tn_9, .inl (k 0, 4, .inl tng9)), (tn_10, .inl (k 0, 4, .inl tng10))]) hP hD [1, 2, 3, 4, 5, 6, 7, 8, 9, 10] [0] rfl rfl (by decide) (by decide) hk1 hFc hP1 hD1
        clear hK1 hP1 hD1 hPc hDc hFc
        clear hk1 hz1 ht hvm
        have hP : va_P D vwCl [(tn_6, .inl (k 0, 10, .inl tng6)), (ob, .inr (3, [.ref oba, .ref ob_1])), (oba, .inr (1, [.ref oba_0, .int o_51, .int o_52])), (oba_0, .inl (k 0, 8, .inl o_53)), (ob_1, .inl (k 2, 1000, .inr (.inl o_54))), (tn, .inr (10, [.int tnv0, .int tnv1, .int tnv2, .ref tn_3, .ref tn_4, .ref tn_5, .ref tn_6, .int tnv7, .int tnv8, .ref tn_9, .ref tn_10, .int tnv11, .ref tn_12, .ref tn_13, .ref tn_14, .ref tn_15, .int tnv16, .ref tn_17, .ref tn_18, .ref tnt])), (tn_3, .inl (k 0, 10, .inl tng3)), (tn_4, .inl (k 0, 10, .inl tng4)), (tn_5, .inl (k 0, 10, .inl tng5)), (tn_9, .inl (k 0, 4, .inl tng9)), (tn_10, .inl (k 0, 4, .inl tng10))] H1 := hP
        have hD : va_D A [(tn_6, .inl (k 0, 10, .inl tng6)), (ob, .inr (3, [.ref oba, .ref ob_1])), (oba, .inr (1, [.ref oba_0, .int o_51, .int o_52])), (oba_0, .inl (k 0, 8, .inl o_53)), (ob_1, .inl (k 2, 1000, .inr (.inl o_54))), (tn, .inr (10, [.int tnv0, .int tnv1, .int tnv2, .ref tn_3, .ref tn_4, .ref tn_5, .ref tn_6, .int tnv7, .int tnv8, .ref tn_9, .ref tn_10, .int tnv11, .ref tn_12, .ref tn_13, .ref tn_14, .ref tn_15, .int tnv16, .ref tn_17, .ref tn_18, .ref tnt])), (tn_3, .inl (k 0, 10, .inl tng3)), (tn_4, .inl (k 0, 10, .inl tng4)), (tn_5, .inl (k 0, 10, .inl tng5)), (tn_9, .inl (k 0, 4, .inl tng9)), (tn_10, .inl (k 0, 4, .inl tng10))] := hD
        generalize H1 = H at hP hS ⊢
        have hw_55 : (PR 8 1 0 0 1000000 o_53) := hw
        have hw_56 := hw_55
        clear hw
        have hP9 := hP.sub (ws' := [(ob, .inr (3, [.ref oba, .ref ob_1])), (oba, .inr (1, [.ref oba_0, .int o_51, .int o_52])), (oba_0, .inl (k 0, 8, .inl o_53)), (ob_1, .inl (k 2, 1000, .inr (.inl o_54))), (tn, .inr (10, [.int tnv0, .int tnv1, .int tnv2, .ref tn_3, .ref tn_4, .ref tn_5, .ref tn_6, .int tnv7, .int tnv8, .ref tn_9, .ref tn_10, .int tnv11, .ref tn_12, .ref tn_13, .ref tn_14, .ref tn_15, .int tnv16, .ref tn_17, .ref tn_18, .ref tnt])), (tn_3, .inl (k 0, 10, .inl tng3)), (tn_4, .inl (k 0, 10, .inl tng4)), (tn_5, .inl (k 0, 10, .inl tng5)), (tn_6, .inl (k 0, 10, .inl tng6)), (tn_9, .inl (k 0, 4, .inl tng9)), (tn_10, .inl (k 0, 4, .inl tng10))]) [1, 2, 3, 4, 5, 6, 7, 8, 0, 9, 10] rfl
        have hD9 := hD.sub (ws' := [(ob, .inr (3, [.ref oba, .ref ob_1])), (oba, .inr (1, [.ref oba_0, .int o_51, .int o_52])), (oba_0, .inl (k 0, 8, .inl o_53)), (ob_1, .inl (k 2, 1000, .inr (.inl o_54))), (tn, .inr (10, [.int tnv0, .int tnv1, .int tnv2, .ref tn_3, .ref tn_4, .ref tn_5, .ref tn_6, .int tnv7, .int tnv8, .ref tn_9, .ref tn_10, .int tnv11, .ref tn_12, .ref tn_13, .ref tn_14, .ref tn_15, .int tnv16, .ref tn_17, .ref tn_18, .ref tnt])), (tn_3, .inl (k 0, 10, .inl tng3)), (tn_4, .inl (k 0, 10, .inl tng4)), (tn_5, .inl (k 0, 10, .inl tng5)), (tn_6, .inl (k 0, 10, .inl tng6)), (tn_9, .inl (k 0, 4, .inl tng9)), (tn_10, .inl (k 0, 4, .inl tng10))]) [1, 2, 3, 4, 5, 6, 7, 8, 0, 9, 10] (by decide) rfl
        exact W.vret hx hb hr (fun tZ ht hW => ⟨⟨(o_51, o_52, o_53, o_54), rfl, hw_56, by rw [ht]; exact hP9, va_K.moved hW.alike hK, hD9⟩, hS.F ht⟩) hS.2.2 dX3_weighLanes_168
  · skip
    have zh_11 : 1000 ≤ x_10.toInt := z_nlt h_11
    have hP9 := hP.sub (ws' := [(ob, .inr (3, [.ref oba, .ref ob_1])), (oba, .inr (1, [.ref oba_0, .int o_5, .int o_6])), (oba_0, .inl (k 0, 8, .inl o_7)), (ob_1, .inl (k 2, 1000, .inr (.inl obg1))), (tn, .inr (10, [.int tnv0, .int tnv1, .int tnv2, .ref tn_3, .ref tn_4, .ref tn_5, .ref tn_6, .int tnv7, .int tnv8, .ref tn_9, .ref tn_10, .int tnv11, .ref tn_12, .ref tn_13, .ref tn_14, .ref tn_15, .int tnv16, .ref tn_17, .ref tn_18, .ref tnt])), (tn_3, .inl (k 0, 10, .inl tng3)), (tn_4, .inl (k 0, 10, .inl tng4)), (tn_5, .inl (k 0, 10, .inl tng5)), (tn_6, .inl (k 0, 10, .inl tng6)), (tn_9, .inl (k 0, 4, .inl tng9)), (tn_10, .inl (k 0, 4, .inl tng10))]) [0, 3, 4, 1, 5, 6, 7, 8, 2, 9, 10] rfl
    have hD9 := hD.sub (ws' := [(ob, .inr (3, [.ref oba, .ref ob_1])), (oba, .inr (1, [.ref oba_0, .int o_5, .int o_6])), (oba_0, .inl (k 0, 8, .inl o_7)), (ob_1, .inl (k 2, 1000, .inr (.inl obg1))), (tn, .inr (10, [.int tnv0, .int tnv1, .int tnv2, .ref tn_3, .ref tn_4, .ref tn_5, .ref tn_6, .int tnv7, .int tnv8, .ref tn_9, .ref tn_10, .int tnv11, .ref tn_12, .ref tn_13, .ref tn_14, .ref tn_15, .int tnv16, .ref tn_17, .ref tn_18, .ref tnt])), (tn_3, .inl (k 0, 10, .inl tng3)), (tn_4, .inl (k 0, 10, .inl tng4)), (tn_5, .inl (k 0, 10, .inl tng5)), (tn_6, .inl (k 0, 10, .inl tng6)), (tn_9, .inl (k 0, 4, .inl tng9)), (tn_10, .inl (k 0, 4, .inl tng10))]) [0, 3, 4, 1, 5, 6, 7, 8, 2, 9, 10] (by decide) rfl
    exact W.vret hx hb hr (fun tZ ht hW => ⟨⟨(o_5, o_6, o_7, obg1), rfl, hw_9, by rw [ht]; exact hP9, va_K.moved hW.alike hK, hD9⟩, hS.F ht⟩) hS.2.2 dX3_weighLanes_33
set_option maxHeartbeats 4000000 in
set_option maxRecDepth 100000 in
theorem c_X3_weighLanes_2 (l : Launch) (D : va_G) (k : Nat → ClassId) (ob : Nat) (tn : Nat) (p1 : Int32) (p2 : Int32) (p3 : Int32) (p4 : Int64) (oba : Nat) (ob_1 : Nat) (oba_0 : Nat) (obav1 : Int32) (obav2 : Int32) (obag0 : Nat → Int32) (obg1 : Nat → Int64) (tnv0 : Int32) (tnv1 : Int32) (tnv2 : Int32) (tn_3 : Nat) (tn_4 : Nat) (tn_5 : Nat) (tn_6 : Nat) (tnv7 : Int32) (tnv8 : Int32) (tn_9 : Nat) (tn_10 : Nat) (tnv11 : Int32) (tn_12 : Nat) (tn_13 : Nat) (tn_14 : Nat) (tn_15 : Nat) (tnv16 : Int32) (tn_17 : Nat) (tn_18 : Nat) (tnt : Nat) (tng3 : Nat → Int32) (tng4 : Nat → Int32) (tng5 : Nat → Int32) (tng6 : Nat → Int32) (tng9 : Nat → Int32) (tng10 : Nat → Int32) (sz : Nat) (h_p1 : 0 ≤ p1.toInt ∧ p1.toInt ≤ 7) (hp_obag0_0 : PR 8 1 0 0 1000000 obag0) (h_tnv0 : 0 ≤ tnv0.toInt ∧ tnv0.toInt ≤ 8) (h_tnv2 : 0 ≤ tnv2.toInt ∧ tnv2.toInt ≤ 10) (h_tnv8 : 0 ≤ tnv8.toInt ∧ tnv8.toInt ≤ 4) (h_tnv11 : 0 ≤ tnv11.toInt ∧ tnv11.toInt ≤ 6) (h_tnv16 : 0 ≤ tnv16.toInt ∧ tnv16.toInt ≤ 2) (hp_tng3_0 : PR 10 1 0 0 7 tng3) (hp_tng4_0 : PR 10 1 0 0 7 tng4) (hp_tng5_0 : PR 10 1 0 0 60 tng5) (hp_tng6_0 : PR 10 1 0 0 10 tng6) (hp_tng9_0 : PR 4 1 0 0 7 tng9) (hp_tng10_0 : PR 4 1 0 0 99 tng10) : Met l yX3_weighLanes (ww yX3_weighLanes cX3_weighLanes 14 none) ({ frames := 6, cells := 0, slots := 0, locals := 166 }) (Pre0 D k [(ob, .inr (3, [.ref oba, .ref ob_1])), (oba, .inr (1, [.ref oba_0, .int obav1, .int obav2])), (oba_0, .inl (k 0, 8, .inl obag0)), (ob_1, .inl (k 2, 1000, .inr (.inl obg1))), (tn, .inr (10, [.int tnv0, .int tnv1, .int tnv2, .ref tn_3, .ref tn_4, .ref tn_5, .ref tn_6, .int tnv7, .int tnv8, .ref tn_9, .ref tn_10, .int tnv11, .ref tn_12, .ref tn_13, .ref tn_14, .ref tn_15, .int tnv16, .ref tn_17, .ref tn_18, .ref tnt])), (tn_3, .inl (k 0, 10, .inl tng3)), (tn_4, .inl (k 0, 10, .inl tng4)), (tn_5, .inl (k 0, 10, .inl tng5)), (tn_6, .inl (k 0, 10, .inl tng6)), (tn_9, .inl (k 0, 4, .inl tng9)), (tn_10, .inl (k 0, 4, .inl tng10))] sz [.ref ob, .ref tn, .int p1, .int p2, .int p3, .long p4, .int 8]) (va_Qv (fun (u : Int32 × Int32 × (Nat → Int32) × (Nat → Int64)) => match u with | (obav1z, obav2z, obag0z, obg1z) => (PR 8 1 0 0 1000000 obag0z)) (fun (u : Int32 × Int32 × (Nat → Int32) × (Nat → Int64)) tZ => match u with | (obav1z, obav2z, obag0z, obg1z) => Bw D k (va_A [(ob, .inr (3, [.ref oba, .ref ob_1])), (oba, .inr (1, [.ref oba_0, .int obav1, .int obav2])), (oba_0, .inl (k 0, 8, .inl obag0)), (ob_1, .inl (k 2, 1000, .inr (.inl obg1))), (tn, .inr (10, [.int tnv0, .int tnv1, .int tnv2, .ref tn_3, .ref tn_4, .ref tn_5, .ref tn_6, .int tnv7, .int tnv8, .ref tn_9, .ref tn_10, .int tnv11, .ref tn_12, .ref tn_13, .ref tn_14, .ref tn_15, .int tnv16, .ref tn_17, .ref tn_18, .ref tnt])), (tn_3, .inl (k 0, 10, .inl tng3)), (tn_4, .inl (k 0, 10, .inl tng4)), (tn_5, .inl (k 0, 10, .inl tng5)), (tn_6, .inl (k 0, 10, .inl tng6)), (tn_9, .inl (k 0, 4, .inl tng9)), (tn_10, .inl (k 0, 4, .inl tng10))] sz) [(ob, .inr (3, [.ref oba, .ref ob_1])), (oba, .inr (1, [.ref oba_0, .int obav1z, .int obav2z])), (oba_0, .inl (k 0, 8, .inl obag0z)), (ob_1, .inl (k 2, 1000, .inr (.inl obg1z))), (tn, .inr (10, [.int tnv0, .int tnv1, .int tnv2, .ref tn_3, .ref tn_4, .ref tn_5, .ref tn_6, .int tnv7, .int tnv8, .ref tn_9, .ref tn_10, .int tnv11, .ref tn_12, .ref tn_13, .ref tn_14, .ref tn_15, .int tnv16, .ref tn_17, .ref tn_18, .ref tnt])), (tn_3, .inl (k 0, 10, .inl tng3)), (tn_4, .inl (k 0, 10, .inl tng4)), (tn_5, .inl (k 0, 10, .inl tng5)), (tn_6, .inl (k 0, 10, .inl tng6)), (tn_9, .inl (k 0, 4, .inl tng9)), (tn_10, .inl (k 0, 4, .inl tng10))] tZ) (va_A [(ob, .inr (3, [.ref oba, .ref ob_1])), (oba, .inr (1, [.ref oba_0, .int obav1, .int obav2])), (oba_0, .inl (k 0, 8, .inl obag0)), (ob_1, .inl (k 2, 1000, .inr (.inl obg1))), (tn, .inr (10, [.int tnv0, .int tnv1, .int tnv2, .ref tn_3, .ref tn_4, .ref tn_5, .ref tn_6, .int tnv7, .int tnv8, .ref tn_9, .ref tn_10, .int tnv11, .ref tn_12, .ref tn_13, .ref tn_14, .ref tn_15, .int tnv16, .ref tn_17, .ref tn_18, .ref tnt])), (tn_3, .inl (k 0, 10, .inl tng3)), (tn_4, .inl (k 0, 10, .inl tng4)), (tn_5, .inl (k 0, 10, .inl tng5)), (tn_6, .inl (k 0, 10, .inl tng6)), (tn_9, .inl (k 0, 4, .inl tng9)), (tn_10, .inl (k 0, 4, .inl tng10))] sz)) 0 0 (va_A [(ob, .inr (3, [.ref oba, .ref ob_1])), (oba, .inr (1, [.ref oba_0, .int obav1, .int obav2])), (oba_0, .inl (k 0, 8, .inl obag0)), (ob_1, .inl (k 2, 1000, .inr (.inl obg1))), (tn, .inr (10, [.int tnv0, .int tnv1, .int tnv2, .ref tn_3, .ref tn_4, .ref tn_5, .ref tn_6, .int tnv7, .int tnv8, .ref tn_9, .ref tn_10, .int tnv11, .ref tn_12, .ref tn_13, .ref tn_14, .ref tn_15, .int tnv16, .ref tn_17, .ref tn_18, .ref tnt])), (tn_3, .inl (k 0, 10, .inl tng3)), (tn_4, .inl (k 0, 10, .inl tng4)), (tn_5, .inl (k 0, 10, .inl tng5)), (tn_6, .inl (k 0, 10, .inl tng6)), (tn_9, .inl (k 0, 4, .inl tng9)), (tn_10, .inl (k 0, 4, .inl tng10))] sz) := by
  refine Met.ofW (cc := cX3_weighLanes) (maxL := 14) (ret := none) (by decide +kernel) rfl ?_
  intro p e s m args below meth c s₁ B hml hv
  obtain ⟨rfl, hsz, hP, hK, hD0, hN⟩ := hv
  have hx := B.exec
  have hb := B.bytes
  have hr := B.returns
  have hts : ∀ w ∈ TT, w.before _ s = true := fun w h => atoms_spec (ws := ww yX3_weighLanes cX3_weighLanes 14 none) B.pre w (List.mem_cons_of_mem _ h)
  have hown : s.vm.findClass RX3 = some m.cls := findClass_of_methodNamed B.named
  have hlocks := B.notSynchronized
  subst hsz
  have hD := hD0.self (sz := s.heap.size)
  generalize hAe : va_A [(ob, .inr (3, [.ref oba, .ref ob_1])), (oba, .inr (1, [.ref oba_0, .int obav1, .int obav2])), (oba_0, .inl (k 0, 8, .inl obag0)), (ob_1, .inl (k 2, 1000, .inr (.inl obg1))), (tn, .inr (10, [.int tnv0, .int tnv1, .int tnv2, .ref tn_3, .ref tn_4, .ref tn_5, .ref tn_6, .int tnv7, .int tnv8, .ref tn_9, .ref tn_10, .int tnv11, .ref tn_12, .ref tn_13, .ref tn_14, .ref tn_15, .int tnv16, .ref tn_17, .ref tn_18, .ref tnt])), (tn_3, .inl (k 0, 10, .inl tng3)), (tn_4, .inl (k 0, 10, .inl tng4)), (tn_5, .inl (k 0, 10, .inl tng5)), (tn_6, .inl (k 0, 10, .inl tng6)), (tn_9, .inl (k 0, 4, .inl tng9)), (tn_10, .inl (k 0, 4, .inl tng10))] s.heap.size = A at hD ⊢
  have hA : ∀ q : Nat, s.heap.size ≤ q → A q := fun q h => by rw [← hAe]; exact Or.inr h
  have hS : va_S A s.heap s.heap [] := va_S.rf
  have hl := lv_entry ([.ref ob, .ref tn, .int p1, .int p2, .int p3, .long p4, .int 8]) (n := 14) (Nat.le_of_ble_eq_true rfl)
  rw [lg_entry_eq]
  generalize (lg_sl ([.ref ob, .ref tn, .int p1, .int p2, .int p3, .long p4, .int 8]) ++ List.replicate (14 - (lg_sl ([.ref ob, .ref tn, .int p1, .int p2, .int p3, .long p4, .int 8])).length) Slot.unset).toArray = ls at hl ⊢
  have hl : lv_has ls 14 [(0, .ref ob), (1, .ref tn), (2, .int p1), (3, .int p2), (4, .int p3), (5, .long p4), (7, .int 8)] := hl
  refine lv_aload_n hx hb dX3_weighLanes_0 rfl (lv_at hl 0 rfl) ?_
  refine va_get (D := D) (ci := 3) (v := .ref oba) (C := RX3) (T := TX3) (N := 2) hx hb hts iT_X3 hown hK hP 0 rfl rfl 0 (by decide) (hts _ tw_2_163) (fun _ h9 => h9) rfl dX3_weighLanes_1 ?_
  refine lv_aload_n hx hb dX3_weighLanes_4 rfl (lv_at hl 1 rfl) ?_
  refine lv_aload_n hx hb dX3_weighLanes_5 rfl (lv_at hl 1 rfl) ?_
  have hPc := hP.sub (ws' := [(tn, .inr (10, [.int tnv0, .int tnv1, .int tnv2, .ref tn_3, .ref tn_4, .ref tn_5, .ref tn_6, .int tnv7, .int tnv8, .ref tn_9, .ref tn_10, .int tnv11, .ref tn_12, .ref tn_13, .ref tn_14, .ref tn_15, .int tnv16, .ref tn_17, .ref tn_18, .ref tnt]))]) [4] rfl
  have hDc := hD.sub (ws' := [(tn, .inr (10, [.int tnv0, .int tnv1, .int tnv2, .ref tn_3, .ref tn_4, .ref tn_5, .ref tn_6, .int tnv7, .int tnv8, .ref tn_9, .ref tn_10, .int tnv11, .ref tn_12, .ref tn_13, .ref tn_14, .ref tn_15, .int tnv16, .ref tn_17, .ref tn_18, .ref tnt]))]) [4] (by decide) rfl
  have hFc := va_free (wc := [(tn, .inr (10, [.int tnv0, .int tnv1, .int tnv2, .ref tn_3, .ref tn_4, .ref tn_5, .ref tn_6, .int tnv7, .int tnv8, .ref tn_9, .ref tn_10, .int tnv11, .ref tn_12, .ref tn_13, .ref tn_14, .ref tn_15, .int tnv16, .ref tn_17, .ref tn_18, .ref tnt]))]) hD hS hA [4] rfl
  refine va_calli (va_runV (C := RX10) (As := []) (rest := [.ref tn, .ref oba]) ⟨hx, hb, hml, hown, hts⟩ (c_X10_openLanes l D k tn tnv0 tnv1 tnv2 tn_3 tn_4 tn_5 tn_6 tnv7 tnv8 tn_9 tn_10 tnv11 tn_12 tn_13 tn_14 tn_15 tnv16 tn_17 tn_18 tnt s.heap.size (show 0 ≤ tnv0.toInt ∧ tnv0.toInt ≤ 8 from by omega) (show 0 ≤ tnv2.toInt ∧ tnv2.toInt ≤ 10 from by omega) (show 0 ≤ tnv8.toInt ∧ tnv8.toInt ≤ 4 from by omega) (show 0 ≤ tnv11.toInt ∧ tnv11.toInt ≤ 6 from by omega) (show 0 ≤ tnv16.toInt ∧ tnv16.toInt ≤ 2 from by omega)) (cwV 0 hts (gV tw_5_155 tw_3_180 tw_3_181 tw_1_3 tw_3_182) rfl rfl rfl hdV_X10_openLanes ⟨Nat.le_of_ble_eq_true rfl, Nat.le_of_ble_eq_true rfl⟩) (cz_V hK hPc hDc hN (ci := 10) (q0 := 0) rfl rfl []) rfl rfl hl.1 rfl (lv_room (Nat.le_of_ble_eq_true rfl)) dX3_weighLanes_6 ⟨Nat.le_of_ble_eq_true rfl, Nat.le_of_ble_eq_true rfl⟩) hS (fun q _ h => hFc q h) hFc (fun r_1 uZ tZ H1 locs ht hvm hw hB hz1 hk1 hS => ?_)
  obtain ⟨hP1, hK1, hD1⟩ := hB
  rw [ht] at hP1
  obtain ⟨hP, hD⟩ := va_join (wr := [(ob, .inr (3, [.ref oba, .ref ob_1])), (oba, .inr (1, [.ref oba_0, .int obav1, .int obav2])), (oba_0, .inl (k 0, 8, .inl obag0)), (ob_1, .inl (k 2, 1000, .inr (.inl obg1))), (tn_3, .inl (k 0, 10, .inl tng3)), (tn_4, .inl (k 0, 10, .inl tng4)), (tn_5, .inl (k 0, 10, .inl tng5)), (tn_6, .inl (k 0, 10, .inl tng6)), (tn_9, .inl (k 0, 4, .inl tng9)), (tn_10, .inl (k 0, 4, .inl tng10))]) (w1 := [(tn, .inr (10, [.int tnv0, .int tnv1, .int tnv2, .ref tn_3, .ref tn_4, .ref tn_5, .ref tn_6, .int tnv7, .int tnv8, .ref tn_9, .ref tn_10, .int tnv11, .ref tn_12, .ref tn_13, .ref tn_14, .ref tn_15, .int tnv16, .ref tn_17, .ref tn_18, .ref tnt]))]) hP hD [4] [0, 1, 2, 3, 5, 6, 7, 8, 9, 10] rfl rfl (by decide) (by decide) hk1 hFc hP1 hD1
  clear hK1 hP1 hD1 hPc hDc hFc
  clear hk1 hz1 ht hvm
  have hP : va_P D vwCl [(ob, .inr (3, [.ref oba, .ref ob_1])), (oba, .inr (1, [.ref oba_0, .int obav1, .int obav2])), (oba_0, .inl (k 0, 8, .inl obag0)), (ob_1, .inl (k 2, 1000, .inr (.inl obg1))), (tn_3, .inl (k 0, 10, .inl tng3)), (tn_4, .inl (k 0, 10, .inl tng4)), (tn_5, .inl (k 0, 10, .inl tng5)), (tn_6, .inl (k 0, 10, .inl tng6)), (tn_9, .inl (k 0, 4, .inl tng9)), (tn_10, .inl (k 0, 4, .inl tng10)), (tn, .inr (10, [.int tnv0, .int tnv1, .int tnv2, .ref tn_3, .ref tn_4, .ref tn_5, .ref tn_6, .int tnv7, .int tnv8, .ref tn_9, .ref tn_10, .int tnv11, .ref tn_12, .ref tn_13, .ref tn_14, .ref tn_15, .int tnv16, .ref tn_17, .ref tn_18, .ref tnt]))] H1 := hP
  have hD : va_D A [(ob, .inr (3, [.ref oba, .ref ob_1])), (oba, .inr (1, [.ref oba_0, .int obav1, .int obav2])), (oba_0, .inl (k 0, 8, .inl obag0)), (ob_1, .inl (k 2, 1000, .inr (.inl obg1))), (tn_3, .inl (k 0, 10, .inl tng3)), (tn_4, .inl (k 0, 10, .inl tng4)), (tn_5, .inl (k 0, 10, .inl tng5)), (tn_6, .inl (k 0, 10, .inl tng6)), (tn_9, .inl (k 0, 4, .inl tng9)), (tn_10, .inl (k 0, 4, .inl tng10)), (tn, .inr (10, [.int tnv0, .int tnv1, .int tnv2, .ref tn_3, .ref tn_4, .ref tn_5, .ref tn_6, .int tnv7, .int tnv8, .ref tn_9, .ref tn_10, .int tnv11, .ref tn_12, .ref tn_13, .ref tn_14, .ref tn_15, .int tnv16, .ref tn_17, .ref tn_18, .ref tnt]))] := hD
  generalize H1 = H at hP hS ⊢
  have hw_2 : (0 ≤ r_1.toInt ∧ r_1.toInt ≤ 1023) := hw
  have hw_3 := hw_2
  clear hw
  refine lv_iload hx hb dX3_weighLanes_9 (lv_at hl 4 rfl) ?_
  have hPc := hP.sub (ws' := [(oba, .inr (1, [.ref oba_0, .int obav1, .int obav2])), (oba_0, .inl (k 0, 8, .inl obag0)), (tn, .inr (10, [.int tnv0, .int tnv1, .int tnv2, .ref tn_3, .ref tn_4, .ref tn_5, .ref tn_6, .int tnv7, .int tnv8, .ref tn_9, .ref tn_10, .int tnv11, .ref tn_12, .ref tn_13, .ref tn_14, .ref tn_15, .int tnv16, .ref tn_17, .ref tn_18, .ref tnt])), (tn_3, .inl (k 0, 10, .inl tng3)), (tn_4, .inl (k 0, 10, .inl tng4)), (tn_5, .inl (k 0, 10, .inl tng5)), (tn_9, .inl (k 0, 4, .inl tng9)), (tn_10, .inl (k 0, 4, .inl tng10))]) [1, 2, 10, 4, 5, 6, 8, 9] rfl
  have hDc := hD.sub (ws' := [(oba, .inr (1, [.ref oba_0, .int obav1, .int obav2])), (oba_0, .inl (k 0, 8, .inl obag0)), (tn, .inr (10, [.int tnv0, .int tnv1, .int tnv2, .ref tn_3, .ref tn_4, .ref tn_5, .ref tn_6, .int tnv7, .int tnv8, .ref tn_9, .ref tn_10, .int tnv11, .ref tn_12, .ref tn_13, .ref tn_14, .ref tn_15, .int tnv16, .ref tn_17, .ref tn_18, .ref tnt])), (tn_3, .inl (k 0, 10, .inl tng3)), (tn_4, .inl (k 0, 10, .inl tng4)), (tn_5, .inl (k 0, 10, .inl tng5)), (tn_9, .inl (k 0, 4, .inl tng9)), (tn_10, .inl (k 0, 4, .inl tng10))]) [1, 2, 10, 4, 5, 6, 8, 9] (by decide) rfl
  have hFc := va_free (wc := [(oba, .inr (1, [.ref oba_0, .int obav1, .int obav2])), (oba_0, .inl (k 0, 8, .inl obag0)), (tn, .inr (10, [.int tnv0, .int tnv1, .int tnv2, .ref tn_3, .ref tn_4, .ref tn_5, .ref tn_6, .int tnv7, .int tnv8, .ref tn_9, .ref tn_10, .int tnv11, .ref tn_12, .ref tn_13, .ref tn_14, .ref tn_15, .int tnv16, .ref tn_17, .ref tn_18, .ref tnt])), (tn_3, .inl (k 0, 10, .inl tng3)), (tn_4, .inl (k 0, 10, .inl tng4)), (tn_5, .inl (k 0, 10, .inl tng5)), (tn_9, .inl (k 0, 4, .inl tng9)), (tn_10, .inl (k 0, 4, .inl tng10))]) hD hS hA [1, 2, 10, 4, 5, 6, 8, 9] rfl
  refine va_callv (va_runV (C := RX1) (As := [.ref tn, .int r_1, .int p3]) (rest := []) ⟨hx, hb, hml, hown, hts⟩ (c_X1_fall l D k oba tn r_1 p3 oba_0 obav1 obav2 obag0 tnv0 tnv1 tnv2 tn_3 tn_4 tn_5 tn_6 tnv7 tnv8 tn_9 tn_10 tnv11 tn_12 tn_13 tn_14 tn_15 tnv16 tn_17 tn_18 tnt tng3 tng4 tng5 tng9 tng10 H.size hp_obag0_0 (show 0 ≤ tnv0.toInt ∧ tnv0.toInt ≤ 8 from by omega) (show 0 ≤ tnv2.toInt ∧ tnv2.toInt ≤ 10 from by omega) (show 0 ≤ tnv8.toInt ∧ tnv8.toInt ≤ 4 from by omega) (show 0 ≤ tnv11.toInt ∧ tnv11.toInt ≤ 6 from by omega) (show 0 ≤ tnv16.toInt ∧ tnv16.toInt ≤ 2 from by omega) hp_tng3_0 hp_tng4_0 hp_tng5_0 hp_tng9_0 hp_tng10_0) (cwV 3 hts (gV tw_5_156 tw_3_184 tw_3_185 tw_1_6 tw_3_186) rfl rfl rfl hdV_X1_fall ⟨Nat.le_of_ble_eq_true rfl, Nat.le_of_ble_eq_true rfl⟩) (cz_V hK hPc hDc hN (ci := 1) (q0 := 0) rfl rfl [.ref tn, .int r_1, .int p3]) rfl rfl hl.1 rfl (lv_room (Nat.le_of_ble_eq_true rfl)) dX3_weighLanes_11 ⟨Nat.le_of_ble_eq_true rfl, Nat.le_of_ble_eq_true rfl⟩) hS (fun q _ h => hFc q h) hFc (fun uZ tZ H1 locs ht hvm hw hB hz1 hk1 hS => ?_)
  obtain ⟨o_5, o_6, o_7⟩ := uZ
  obtain ⟨hP1, hK1, hD1⟩ := hB
  rw [ht] at hP1
  obtain ⟨hP, hD⟩ := va_join (wr := [(ob, .inr (3, [.ref oba, .ref ob_1])), (ob_1, .inl (k 2, 1000, .inr (.inl obg1))), (tn_6, .inl (k 0, 10, .inl tng6))]) (w1 := [(oba, .inr (1, [.ref oba_0, .int o_5, .int o_6])), (oba_0, .inl (k 0, 8, .inl o_7)), (tn, .inr (10, [.int tnv0, .int tnv1, .int tnv2, .ref tn_3, .ref tn_4, .ref tn_5, .ref tn_6, .int tnv7, .int tnv8, .ref tn_9, .ref tn_10, .int tnv11, .ref tn_12, .ref tn_13, .ref tn_14, .ref tn_15, .int tnv16, .ref tn_17, .ref tn_18, .ref tnt])), (tn_3, .inl (k 0, 10, .inl tng3)), (tn_4, .inl (k 0, 10, .inl tng4)), (tn_5, .inl (k 0, 10, .inl tng5)), (tn_9, .inl (k 0, 4, .inl tng9)), (tn_10, .inl (k 0, 4, .inl tng10))]) hP hD [1, 2, 10, 4, 5, 6, 8, 9] [0, 3, 7] rfl rfl (by decide) (by decide) hk1 hFc hP1 hD1
  clear hK1 hP1 hD1 hPc hDc hFc
  clear hk1 hz1 ht hvm
  have hP : va_P D vwCl [(ob, .inr (3, [.ref oba, .ref ob_1])), (ob_1, .inl (k 2, 1000, .inr (.inl obg1))), (tn_6, .inl (k 0, 10, .inl tng6)), (oba, .inr (1, [.ref oba_0, .int o_5, .int o_6])), (oba_0, .inl (k 0, 8, .inl o_7)), (tn, .inr (10, [.int tnv0, .int tnv1, .int tnv2, .ref tn_3, .ref tn_4, .ref tn_5, .ref tn_6, .int tnv7, .int tnv8, .ref tn_9, .ref tn_10, .int tnv11, .ref tn_12, .ref tn_13, .ref tn_14, .ref tn_15, .int tnv16, .ref tn_17, .ref tn_18, .ref tnt])), (tn_3, .inl (k 0, 10, .inl tng3)), (tn_4, .inl (k 0, 10, .inl tng4)), (tn_5, .inl (k 0, 10, .inl tng5)), (tn_9, .inl (k 0, 4, .inl tng9)), (tn_10, .inl (k 0, 4, .inl tng10))] H1 := hP
  have hD : va_D A [(ob, .inr (3, [.ref oba, .ref ob_1])), (ob_1, .inl (k 2, 1000, .inr (.inl obg1))), (tn_6, .inl (k 0, 10, .inl tng6)), (oba, .inr (1, [.ref oba_0, .int o_5, .int o_6])), (oba_0, .inl (k 0, 8, .inl o_7)), (tn, .inr (10, [.int tnv0, .int tnv1, .int tnv2, .ref tn_3, .ref tn_4, .ref tn_5, .ref tn_6, .int tnv7, .int tnv8, .ref tn_9, .ref tn_10, .int tnv11, .ref tn_12, .ref tn_13, .ref tn_14, .ref tn_15, .int tnv16, .ref tn_17, .ref tn_18, .ref tnt])), (tn_3, .inl (k 0, 10, .inl tng3)), (tn_4, .inl (k 0, 10, .inl tng4)), (tn_5, .inl (k 0, 10, .inl tng5)), (tn_9, .inl (k 0, 4, .inl tng9)), (tn_10, .inl (k 0, 4, .inl tng10))] := hD
  generalize H1 = H at hP hS ⊢
  have hw_8 : (PR 8 1 0 0 1000000 o_7) := hw
  have hw_9 := hw_8
  clear hw
  refine lv_aload_n hx hb dX3_weighLanes_14 rfl (lv_at hl 0 rfl) ?_
  refine va_get (D := D) (ci := 3) (v := .ref oba) (C := RX3) (T := TX3) (N := 2) hx hb hts iT_X3 hown hK hP 0 rfl rfl 0 (by decide) (hts _ tw_2_163) (fun _ h9 => h9) rfl dX3_weighLanes_15 ?_
  refine va_get (D := D) (ci := 1) (v := .ref oba_0) (C := RX1) (T := TX1) (N := 3) hx hb hts iT_X1 hown hK hP 3 rfl rfl 0 (by decide) (hts _ tw_2_21) (fun _ h9 => h9) rfl dX3_weighLanes_18 ?_
  refine lv_iload_n hx hb dX3_weighLanes_21 rfl (lv_at hl 2 rfl) ?_
  refine va_iald hx hb hK hP 4 0 rfl rfl (z_in (by omega) (by omega)) dX3_weighLanes_22 ?_
  refine lv_topi (fun x_10 ex_10 => ?_)
  have zx_10r0 : 0 ≤ x_10.toInt ∧ x_10.toInt ≤ 1000000 := by rw [ex_10]; exact PR.ld hw_9 (by omega) (by omega) (by omega)
  refine lv_istore (lv' := [(8, .int x_10), (0, .ref ob), (1, .ref tn), (2, .int p1), (3, .int p2), (4, .int p3), (5, .long p4), (7, .int 8)]) hx hb dX3_weighLanes_23 hl (by decide) rfl (fun ls hl => ?_)
  refine lv_iload hx hb dX3_weighLanes_25 (lv_at hl 0 rfl) ?_
  refine lv_sipush (v := 1000) hx hb dX3_weighLanes_27 (by decide) ?_
  refine lv_icmp_lt (tgt := 34) hx hb dX3_weighLanes_30 (by decide) (fun h_11 => ?_) (fun h_11 => ?_)
  · skip
    have zh_11 : x_10.toInt < 1000 := z_lt h_11
    refine lv_aload_n hx hb dX3_weighLanes_34 rfl (lv_at hl 1 rfl) ?_
    refine va_get (D := D) (ci := 3) (v := .ref oba) (C := RX3) (T := TX3) (N := 2) hx hb hts iT_X3 hown hK hP 0 rfl rfl 0 (by decide) (hts _ tw_2_163) (fun _ h9 => h9) rfl dX3_weighLanes_35 ?_
    refine lv_aload_n hx hb dX3_weighLanes_38 rfl (lv_at hl 2 rfl) ?_
    refine lv_iload_n hx hb dX3_weighLanes_39 rfl (lv_at hl 3 rfl) ?_
    have hPc := hP.sub (ws' := [(oba, .inr (1, [.ref oba_0, .int o_5, .int o_6])), (oba_0, .inl (k 0, 8, .inl o_7)), (tn, .inr (10, [.int tnv0, .int tnv1, .int tnv2, .ref tn_3, .ref tn_4, .ref tn_5, .ref tn_6, .int tnv7, .int tnv8, .ref tn_9, .ref tn_10, .int tnv11, .ref tn_12, .ref tn_13, .ref tn_14, .ref tn_15, .int tnv16, .ref tn_17, .ref tn_18, .ref tnt])), (tn_3, .inl (k 0, 10, .inl tng3)), (tn_4, .inl (k 0, 10, .inl tng4)), (tn_5, .inl (k 0, 10, .inl tng5)), (tn_9, .inl (k 0, 4, .inl tng9)), (tn_10, .inl (k 0, 4, .inl tng10))]) [3, 4, 5, 6, 7, 8, 9, 10] rfl
    have hDc := hD.sub (ws' := [(oba, .inr (1, [.ref oba_0, .int o_5, .int o_6])), (oba_0, .inl (k 0, 8, .inl o_7)), (tn, .inr (10, [.int tnv0, .int tnv1, .int tnv2, .ref tn_3, .ref tn_4, .ref tn_5, .ref tn_6, .int tnv7, .int tnv8, .ref tn_9, .ref tn_10, .int tnv11, .ref tn_12, .ref tn_13, .ref tn_14, .ref tn_15, .int tnv16, .ref tn_17, .ref tn_18, .ref tnt])), (tn_3, .inl (k 0, 10, .inl tng3)), (tn_4, .inl (k 0, 10, .inl tng4)), (tn_5, .inl (k 0, 10, .inl tng5)), (tn_9, .inl (k 0, 4, .inl tng9)), (tn_10, .inl (k 0, 4, .inl tng10))]) [3, 4, 5, 6, 7, 8, 9, 10] (by decide) rfl
    have hFc := va_free (wc := [(oba, .inr (1, [.ref oba_0, .int o_5, .int o_6])), (oba_0, .inl (k 0, 8, .inl o_7)), (tn, .inr (10, [.int tnv0, .int tnv1, .int tnv2, .ref tn_3, .ref tn_4, .ref tn_5, .ref tn_6, .int tnv7, .int tnv8, .ref tn_9, .ref tn_10, .int tnv11, .ref tn_12, .ref tn_13, .ref tn_14, .ref tn_15, .int tnv16, .ref tn_17, .ref tn_18, .ref tnt])), (tn_3, .inl (k 0, 10, .inl tng3)), (tn_4, .inl (k 0, 10, .inl tng4)), (tn_5, .inl (k 0, 10, .inl tng5)), (tn_9, .inl (k 0, 4, .inl tng9)), (tn_10, .inl (k 0, 4, .inl tng10))]) hD hS hA [3, 4, 5, 6, 7, 8, 9, 10] rfl
    refine va_calli (va_runV (C := RX1) (As := [.ref tn, .int p1]) (rest := []) ⟨hx, hb, hml, hown, hts⟩ (c_X1_wayTo l D k oba tn p1 oba_0 o_5 o_6 o_7 tnv0 tnv1 tnv2 tn_3 tn_4 tn_5 tn_6 tnv7 tnv8 tn_9 tn_10 tnv11 tn_12 tn_13 tn_14 tn_15 tnv16 tn_17 tn_18 tnt tng3 tng4 tng5 tng9 tng10 H.size (show 0 ≤ p1.toInt ∧ p1.toInt ≤ 7 from by omega) hw_9 (show 0 ≤ tnv0.toInt ∧ tnv0.toInt ≤ 8 from by omega) (show 0 ≤ tnv2.toInt ∧ tnv2.toInt ≤ 10 from by omega) (show 0 ≤ tnv8.toInt ∧ tnv8.toInt ≤ 4 from by omega) (show 0 ≤ tnv11.toInt ∧ tnv11.toInt ≤ 6 from by omega) (show 0 ≤ tnv16.toInt ∧ tnv16.toInt ≤ 2 from by omega) hp_tng3_0 hp_tng4_0 hp_tng5_0 hp_tng9_0 hp_tng10_0) (cwV 2 hts (gV tw_5_157 tw_4_96 tw_4_97 tw_1_6 tw_4_98) rfl rfl rfl hdV_X1_wayTo ⟨Nat.le_of_ble_eq_true rfl, Nat.le_of_ble_eq_true rfl⟩) (cz_V hK hPc hDc hN (ci := 1) (q0 := 0) rfl rfl [.ref tn, .int p1]) rfl rfl hl.1 rfl (lv_room (Nat.le_of_ble_eq_true rfl)) dX3_weighLanes_40 ⟨Nat.le_of_ble_eq_true rfl, Nat.le_of_ble_eq_true rfl⟩) hS (fun q _ h => hFc q h) hFc (fun r_12 uZ tZ H1 locs ht hvm hw hB hz1 hk1 hS => ?_)
    obtain ⟨hP1, hK1, hD1⟩ := hB
    rw [ht] at hP1
    obtain ⟨hP, hD⟩ := va_join (wr := [(ob, .inr (3, [.ref oba, .ref ob_1])), (ob_1, .inl (k 2, 1000, .inr (.inl obg1))), (tn_6, .inl (k 0, 10, .inl tng6))]) (w1 := [(oba, .inr (1, [.ref oba_0, .int o_5, .int o_6])), (oba_0, .inl (k 0, 8, .inl o_7)), (tn, .inr (10, [.int tnv0, .int tnv1, .int tnv2, .ref tn_3, .ref tn_4, .ref tn_5, .ref tn_6, .int tnv7, .int tnv8, .ref tn_9, .ref tn_10, .int tnv11, .ref tn_12, .ref tn_13, .ref tn_14, .ref tn_15, .int tnv16, .ref tn_17, .ref tn_18, .ref tnt])), (tn_3, .inl (k 0, 10, .inl tng3)), (tn_4, .inl (k 0, 10, .inl tng4)), (tn_5, .inl (k 0, 10, .inl tng5)), (tn_9, .inl (k 0, 4, .inl tng9)), (tn_10, .inl (k 0, 4, .inl tng10))]) hP hD [3, 4, 5, 6, 7, 8, 9, 10] [0, 1, 2] rfl rfl (by decide) (by decide) hk1 hFc hP1 hD1
    clear hK1 hP1 hD1 hPc hDc hFc
    clear hk1 hz1 ht hvm
    have hP : va_P D vwCl [(ob, .inr (3, [.ref oba, .ref ob_1])), (ob_1, .inl (k 2, 1000, .inr (.inl obg1))), (tn_6, .inl (k 0, 10, .inl tng6)), (oba, .inr (1, [.ref oba_0, .int o_5, .int o_6])), (oba_0, .inl (k 0, 8, .inl o_7)), (tn, .inr (10, [.int tnv0, .int tnv1, .int tnv2, .ref tn_3, .ref tn_4, .ref tn_5, .ref tn_6, .int tnv7, .int tnv8, .ref tn_9, .ref tn_10, .int tnv11, .ref tn_12, .ref tn_13, .ref tn_14, .ref tn_15, .int tnv16, .ref tn_17, .ref tn_18, .ref tnt])), (tn_3, .inl (k 0, 10, .inl tng3)), (tn_4, .inl (k 0, 10, .inl tng4)), (tn_5, .inl (k 0, 10, .inl tng5)), (tn_9, .inl (k 0, 4, .inl tng9)), (tn_10, .inl (k 0, 4, .inl tng10))] H1 := hP
    have hD : va_D A [(ob, .inr (3, [.ref oba, .ref ob_1])), (ob_1, .inl (k 2, 1000, .inr (.inl obg1))), (tn_6, .inl (k 0, 10, .inl tng6)), (oba, .inr (1, [.ref oba_0, .int o_5, .int o_6])), (oba_0, .inl (k 0, 8, .inl o_7)), (tn, .inr (10, [.int tnv0, .int tnv1, .int tnv2, .ref tn_3, .ref tn_4, .ref tn_5, .ref tn_6, .int tnv7, .int tnv8, .ref tn_9, .ref tn_10, .int tnv11, .ref tn_12, .ref tn_13, .ref tn_14, .ref tn_15, .int tnv16, .ref tn_17, .ref tn_18, .ref tnt])), (tn_3, .inl (k 0, 10, .inl tng3)), (tn_4, .inl (k 0, 10, .inl tng4)), (tn_5, .inl (k 0, 10, .inl tng5)), (tn_9, .inl (k 0, 4, .inl tng9)), (tn_10, .inl (k 0, 4, .inl tng10))] := hD
    generalize H1 = H at hP hS ⊢
    have hw_13 : (0 ≤ r_12.toInt ∧ r_12.toInt ≤ 1023) := hw
    have hw_14 := hw_13
    clear hw
    refine lv_iload_n hx hb dX3_weighLanes_43 rfl (lv_at hl 4 rfl) ?_
    refine lv_iconst (v := (-1)) hx hb dX3_weighLanes_44 (by decide) ?_
    refine lv_ixor hx hb dX3_weighLanes_45 ?_
    refine lv_topi (fun x_15 ex_15 => ?_)
    have zrp2 := z_rng p2
    refine lv_iand hx hb dX3_weighLanes_46 ?_
    refine lv_topi (fun x_16 ex_16 => ?_)
    have zrx_15 := z_rng x_15
    have zx_16 : 0 ≤ x_16.toInt ∧ x_16.toInt ≤ r_12.toInt := by rw [ex_16]; exact z_andL (by omega)
    refine lv_istore (lv' := [(9, .int x_16), (8, .int x_10), (0, .ref ob), (1, .ref tn), (2, .int p1), (3, .int p2), (4, .int p3), (5, .long p4), (7, .int 8)]) hx hb dX3_weighLanes_47 hl (by decide) rfl (fun ls hl => ?_)
    refine lv_iload hx hb dX3_weighLanes_49 (lv_at hl 0 rfl) ?_
    refine lv_iload hx hb dX3_weighLanes_51 (lv_at hl 0 rfl) ?_
    refine lv_ineg hx hb dX3_weighLanes_53 ?_
    refine lv_topi (fun x_17 ex_17 => ?_)
    refine lv_iand hx hb dX3_weighLanes_54 ?_
    refine lv_topi (fun x_18 ex_18 => ?_)
    have zrx_17 := z_rng x_17
    have zx_18 : 0 ≤ x_18.toInt ∧ x_18.toInt ≤ x_16.toInt := by rw [ex_18]; exact z_andL (by omega)
    refine lv_iconst (v := 1) hx hb dX3_weighLanes_55 (by decide) ?_
    refine lv_isub hx hb dX3_weighLanes_56 ?_
    refine lv_topi (fun x_19 ex_19 => ?_)
    have zx_19 : x_19.toInt = x_18.toInt - 1 := by rw [ex_19]; exact z_sub rfl rfl (by omega) (by omega)
    have hPc := hP.sub (ws' := []) [] rfl
    have hDc := hD.sub (ws' := []) [] (by decide) rfl
    have hFc := va_free (wc := []) hD hS hA [] rfl
    refine va_calli (va_runS (As := [.int x_19]) (rest := []) ⟨hx, hb, hml, hown, hts⟩ (c_J6_bitCount_0f7a4 l D k x_19 H.size) (va_cwS 1 hts (gS tw_5_158 tw_4_101 tw_1_20 tw_4_102) rfl rfl rfl hdS_J6_bitCount_0f7a4 ⟨Nat.le_of_ble_eq_true rfl, Nat.le_of_ble_eq_true rfl⟩) (cz_S hK hPc hDc hN [.int x_19]) rfl rfl hl.1 rfl (lv_room (Nat.le_of_ble_eq_true rfl)) dX3_weighLanes_57 ⟨Nat.le_of_ble_eq_true rfl, Nat.le_of_ble_eq_true rfl⟩) hS (fun q _ h => hFc q h) hFc (fun r_20 uZ tZ H1 locs ht hvm hw hB hz1 hk1 hS => ?_)
    obtain ⟨hP1, hK1, hD1⟩ := hB
    rw [ht] at hP1
    obtain ⟨hP, hD⟩ := va_join (wr := [(ob, .inr (3, [.ref oba, .ref ob_1])), (ob_1, .inl (k 2, 1000, .inr (.inl obg1))), (tn_6, .inl (k 0, 10, .inl tng6)), (oba, .inr (1, [.ref oba_0, .int o_5, .int o_6])), (oba_0, .inl (k 0, 8, .inl o_7)), (tn, .inr (10, [.int tnv0, .int tnv1, .int tnv2, .ref tn_3, .ref tn_4, .ref tn_5, .ref tn_6, .int tnv7, .int tnv8, .ref tn_9, .ref tn_10, .int tnv11, .ref tn_12, .ref tn_13, .ref tn_14, .ref tn_15, .int tnv16, .ref tn_17, .ref tn_18, .ref tnt])), (tn_3, .inl (k 0, 10, .inl tng3)), (tn_4, .inl (k 0, 10, .inl tng4)), (tn_5, .inl (k 0, 10, .inl tng5)), (tn_9, .inl (k 0, 4, .inl tng9)), (tn_10, .inl (k 0, 4, .inl tng10))]) (w1 := []) hP hD [] [0, 1, 2, 3, 4, 5, 6, 7, 8, 9, 10] rfl rfl (by decide) (by decide) hk1 hFc hP1 hD1
    clear hK1 hP1 hD1 hPc hDc hFc
    clear hk1 hz1 ht hvm
    have hP : va_P D vwCl [(ob, .inr (3, [.ref oba, .ref ob_1])), (ob_1, .inl (k 2, 1000, .inr (.inl obg1))), (tn_6, .inl (k 0, 10, .inl tng6)), (oba, .inr (1, [.ref oba_0, .int o_5, .int o_6])), (oba_0, .inl (k 0, 8, .inl o_7)), (tn, .inr (10, [.int tnv0, .int tnv1, .int tnv2, .ref tn_3, .ref tn_4, .ref tn_5, .ref tn_6, .int tnv7, .int tnv8, .ref tn_9, .ref tn_10, .int tnv11, .ref tn_12, .ref tn_13, .ref tn_14, .ref tn_15, .int tnv16, .ref tn_17, .ref tn_18, .ref tnt])), (tn_3, .inl (k 0, 10, .inl tng3)), (tn_4, .inl (k 0, 10, .inl tng4)), (tn_5, .inl (k 0, 10, .inl tng5)), (tn_9, .inl (k 0, 4, .inl tng9)), (tn_10, .inl (k 0, 4, .inl tng10))] H1 := hP
    have hD : va_D A [(ob, .inr (3, [.ref oba, .ref ob_1])), (ob_1, .inl (k 2, 1000, .inr (.inl obg1))), (tn_6, .inl (k 0, 10, .inl tng6)), (oba, .inr (1, [.ref oba_0, .int o_5, .int o_6])), (oba_0, .inl (k 0, 8, .inl o_7)), (tn, .inr (10, [.int tnv0, .int tnv1, .int tnv2, .ref tn_3, .ref tn_4, .ref tn_5, .ref tn_6, .int tnv7, .int tnv8, .ref tn_9, .ref tn_10, .int tnv11, .ref tn_12, .ref tn_13, .ref tn_14, .ref tn_15, .int tnv16, .ref tn_17, .ref tn_18, .ref tnt])), (tn_3, .inl (k 0, 10, .inl tng3)), (tn_4, .inl (k 0, 10, .inl tng4)), (tn_5, .inl (k 0, 10, .inl tng5)), (tn_9, .inl (k 0, 4, .inl tng9)), (tn_10, .inl (k 0, 4, .inl tng10))] := hD
    generalize H1 = H at hP hS ⊢
    have hw_21 : (0 ≤ r_20.toInt ∧ r_20.toInt ≤ 63) := hw
    have hw_22 := hw_21
    clear hw
    refine lv_istore (lv' := [(10, .int r_20), (9, .int x_16), (8, .int x_10), (0, .ref ob), (1, .ref tn), (2, .int p1), (3, .int p2), (4, .int p3), (5, .long p4), (7, .int 8)]) hx hb dX3_weighLanes_60 hl (by decide) rfl (fun ls hl => ?_)
    refine lv_iload hx hb dX3_weighLanes_62 (lv_at hl 1 rfl) ?_
    refine lv_if_eq (tgt := 81) hx hb dX3_weighLanes_64 (by decide) (fun h_23 => ?_) (fun h_23 => ?_)
    · skip
      have zh_23 : x_16.toInt = 0 := z_eq h_23
      refine lv_aload_n hx hb dX3_weighLanes_81 rfl (lv_at hl 3 rfl) ?_
      refine va_get (D := D) (ci := 3) (v := .ref ob_1) (C := RX3) (T := TX3) (N := 2) hx hb hts iT_X3 hown hK hP 0 rfl rfl 1 (by decide) (hts _ tw_2_164) (fun _ h9 => h9) rfl dX3_weighLanes_82 ?_
      refine lv_iload hx hb dX3_weighLanes_85 (lv_at hl 2 rfl) ?_
      refine lv_dup2_11 hx hb dX3_weighLanes_87 rfl rfl ?_
      refine va_lald hx hb hK hP 1 2 rfl rfl (z_in (by omega) (by omega)) dX3_weighLanes_88 ?_
      refine lv_topl (fun x_24 ex_24 => ?_)
      refine lv_lload hx hb dX3_weighLanes_89 (lv_at hl 8 rfl) ?_
      refine lv_ladd hx hb dX3_weighLanes_91 ?_
      refine lv_topl (fun x_25 ex_25 => ?_)
      refine va_last hx hb hK hP hD hS 1 2 rfl rfl (z_in (by omega) (by omega)) dX3_weighLanes_92 (fun H locs hP hD hS => ?_)
      obtain ⟨g_26, eg_26⟩ : ∃ z : Nat → Int64, vp_updL obg1 x_10.toNatClampNeg x_25 = z := ⟨_, rfl⟩
      have hP : va_P D vwCl [(ob, .inr (3, [.ref oba, .ref ob_1])), (ob_1, .inl (k 2, 1000, .inr (.inl (vp_updL obg1 x_10.toNatClampNeg x_25)))), (tn_6, .inl (k 0, 10, .inl tng6)), (oba, .inr (1, [.ref oba_0, .int o_5, .int o_6])), (oba_0, .inl (k 0, 8, .inl o_7)), (tn, .inr (10, [.int tnv0, .int tnv1, .int tnv2, .ref tn_3, .ref tn_4, .ref tn_5, .ref tn_6, .int tnv7, .int tnv8, .ref tn_9, .ref tn_10, .int tnv11, .ref tn_12, .ref tn_13, .ref tn_14, .ref tn_15, .int tnv16, .ref tn_17, .ref tn_18, .ref tnt])), (tn_3, .inl (k 0, 10, .inl tng3)), (tn_4, .inl (k 0, 10, .inl tng4)), (tn_5, .inl (k 0, 10, .inl tng5)), (tn_9, .inl (k 0, 4, .inl tng9)), (tn_10, .inl (k 0, 4, .inl tng10))] H := hP
      have hD : va_D A [(ob, .inr (3, [.ref oba, .ref ob_1])), (ob_1, .inl (k 2, 1000, .inr (.inl (vp_updL obg1 x_10.toNatClampNeg x_25)))), (tn_6, .inl (k 0, 10, .inl tng6)), (oba, .inr (1, [.ref oba_0, .int o_5, .int o_6])), (oba_0, .inl (k 0, 8, .inl o_7)), (tn, .inr (10, [.int tnv0, .int tnv1, .int tnv2, .ref tn_3, .ref tn_4, .ref tn_5, .ref tn_6, .int tnv7, .int tnv8, .ref tn_9, .ref tn_10, .int tnv11, .ref tn_12, .ref tn_13, .ref tn_14, .ref tn_15, .int tnv16, .ref tn_17, .ref tn_18, .ref tnt])), (tn_3, .inl (k 0, 10, .inl tng3)), (tn_4, .inl (k 0, 10, .inl tng4)), (tn_5, .inl (k 0, 10, .inl tng5)), (tn_9, .inl (k 0, 4, .inl tng9)), (tn_10, .inl (k 0, 4, .inl tng10))] := hD
      rw [eg_26] at hP hD
      have hP9 := hP.sub (ws' := [(ob, .inr (3, [.ref oba, .ref ob_1])), (oba, .inr (1, [.ref oba_0, .int o_5, .int o_6])), (oba_0, .inl (k 0, 8, .inl o_7)), (ob_1, .inl (k 2, 1000, .inr (.inl g_26))), (tn, .inr (10, [.int tnv0, .int tnv1, .int tnv2, .ref tn_3, .ref tn_4, .ref tn_5, .ref tn_6, .int tnv7, .int tnv8, .ref tn_9, .ref tn_10, .int tnv11, .ref tn_12, .ref tn_13, .ref tn_14, .ref tn_15, .int tnv16, .ref tn_17, .ref tn_18, .ref tnt])), (tn_3, .inl (k 0, 10, .inl tng3)), (tn_4, .inl (k 0, 10, .inl tng4)), (tn_5, .inl (k 0, 10, .inl tng5)), (tn_6, .inl (k 0, 10, .inl tng6)), (tn_9, .inl (k 0, 4, .inl tng9)), (tn_10, .inl (k 0, 4, .inl tng10))]) [0, 3, 4, 1, 5, 6, 7, 8, 2, 9, 10] rfl
      have hD9 := hD.sub (ws' := [(ob, .inr (3, [.ref oba, .ref ob_1])), (oba, .inr (1, [.ref oba_0, .int o_5, .int o_6])), (oba_0, .inl (k 0, 8, .inl o_7)), (ob_1, .inl (k 2, 1000, .inr (.inl g_26))), (tn, .inr (10, [.int tnv0, .int tnv1, .int tnv2, .ref tn_3, .ref tn_4, .ref tn_5, .ref tn_6, .int tnv7, .int tnv8, .ref tn_9, .ref tn_10, .int tnv11, .ref tn_12, .ref tn_13, .ref tn_14, .ref tn_15, .int tnv16, .ref tn_17, .ref tn_18, .ref tnt])), (tn_3, .inl (k 0, 10, .inl tng3)), (tn_4, .inl (k 0, 10, .inl tng4)), (tn_5, .inl (k 0, 10, .inl tng5)), (tn_6, .inl (k 0, 10, .inl tng6)), (tn_9, .inl (k 0, 4, .inl tng9)), (tn_10, .inl (k 0, 4, .inl tng10))]) [0, 3, 4, 1, 5, 6, 7, 8, 2, 9, 10] (by decide) rfl
      exact W.vret hx hb hr (fun tZ ht hW => ⟨⟨(o_5, o_6, o_7, g_26), rfl, hw_9, by rw [ht]; exact hP9, va_K.moved hW.alike hK, hD9⟩, hS.F ht⟩) hS.2.2 dX3_weighLanes_93
    · skip
      have zh_23 : ¬ x_16.toInt = 0 := z_ne h_23
      refine lv_iload hx hb dX3_weighLanes_67 (lv_at hl 0 rfl) ?_
      refine lv_bipush (v := 10) hx hb dX3_weighLanes_69 (by decide) ?_
      refine lv_icmp_ge (tgt := 81) hx hb dX3_weighLanes_71 (by decide) (fun h_27 => ?_) (fun h_27 => ?_)
      · skip
        have zh_27 : 10 ≤ r_20.toInt := z_le h_27
        refine lv_aload_n hx hb dX3_weighLanes_81 rfl (lv_at hl 3 rfl) ?_
        refine va_get (D := D) (ci := 3) (v := .ref ob_1) (C := RX3) (T := TX3) (N := 2) hx hb hts iT_X3 hown hK hP 0 rfl rfl 1 (by decide) (hts _ tw_2_164) (fun _ h9 => h9) rfl dX3_weighLanes_82 ?_
        refine lv_iload hx hb dX3_weighLanes_85 (lv_at hl 2 rfl) ?_
        refine lv_dup2_11 hx hb dX3_weighLanes_87 rfl rfl ?_
        refine va_lald hx hb hK hP 1 2 rfl rfl (z_in (by omega) (by omega)) dX3_weighLanes_88 ?_
        refine lv_topl (fun x_28 ex_28 => ?_)
        refine lv_lload hx hb dX3_weighLanes_89 (lv_at hl 8 rfl) ?_
        refine lv_ladd hx hb dX3_weighLanes_91 ?_
        refine lv_topl (fun x_29 ex_29 => ?_)
        refine va_last hx hb hK hP hD hS 1 2 rfl rfl (z_in (by omega) (by omega)) dX3_weighLanes_92 (fun H locs hP hD hS => ?_)
        obtain ⟨g_30, eg_30⟩ : ∃ z : Nat → Int64, vp_updL obg1 x_10.toNatClampNeg x_29 = z := ⟨_, rfl⟩
        have hP : va_P D vwCl [(ob, .inr (3, [.ref oba, .ref ob_1])), (ob_1, .inl (k 2, 1000, .inr (.inl (vp_updL obg1 x_10.toNatClampNeg x_29)))), (tn_6, .inl (k 0, 10, .inl tng6)), (oba, .inr (1, [.ref oba_0, .int o_5, .int o_6])), (oba_0, .inl (k 0, 8, .inl o_7)), (tn, .inr (10, [.int tnv0, .int tnv1, .int tnv2, .ref tn_3, .ref tn_4, .ref tn_5, .ref tn_6, .int tnv7, .int tnv8, .ref tn_9, .ref tn_10, .int tnv11, .ref tn_12, .ref tn_13, .ref tn_14, .ref tn_15, .int tnv16, .ref tn_17, .ref tn_18, .ref tnt])), (tn_3, .inl (k 0, 10, .inl tng3)), (tn_4, .inl (k 0, 10, .inl tng4)), (tn_5, .inl (k 0, 10, .inl tng5)), (tn_9, .inl (k 0, 4, .inl tng9)), (tn_10, .inl (k 0, 4, .inl tng10))] H := hP
        have hD : va_D A [(ob, .inr (3, [.ref oba, .ref ob_1])), (ob_1, .inl (k 2, 1000, .inr (.inl (vp_updL obg1 x_10.toNatClampNeg x_29)))), (tn_6, .inl (k 0, 10, .inl tng6)), (oba, .inr (1, [.ref oba_0, .int o_5, .int o_6])), (oba_0, .inl (k 0, 8, .inl o_7)), (tn, .inr (10, [.int tnv0, .int tnv1, .int tnv2, .ref tn_3, .ref tn_4, .ref tn_5, .ref tn_6, .int tnv7, .int tnv8, .ref tn_9, .ref tn_10, .int tnv11, .ref tn_12, .ref tn_13, .ref tn_14, .ref tn_15, .int tnv16, .ref tn_17, .ref tn_18, .ref tnt])), (tn_3, .inl (k 0, 10, .inl tng3)), (tn_4, .inl (k 0, 10, .inl tng4)), (tn_5, .inl (k 0, 10, .inl tng5)), (tn_9, .inl (k 0, 4, .inl tng9)), (tn_10, .inl (k 0, 4, .inl tng10))] := hD
        rw [eg_30] at hP hD
        have hP9 := hP.sub (ws' := [(ob, .inr (3, [.ref oba, .ref ob_1])), (oba, .inr (1, [.ref oba_0, .int o_5, .int o_6])), (oba_0, .inl (k 0, 8, .inl o_7)), (ob_1, .inl (k 2, 1000, .inr (.inl g_30))), (tn, .inr (10, [.int tnv0, .int tnv1, .int tnv2, .ref tn_3, .ref tn_4, .ref tn_5, .ref tn_6, .int tnv7, .int tnv8, .ref tn_9, .ref tn_10, .int tnv11, .ref tn_12, .ref tn_13, .ref tn_14, .ref tn_15, .int tnv16, .ref tn_17, .ref tn_18, .ref tnt])), (tn_3, .inl (k 0, 10, .inl tng3)), (tn_4, .inl (k 0, 10, .inl tng4)), (tn_5, .inl (k 0, 10, .inl tng5)), (tn_6, .inl (k 0, 10, .inl tng6)), (tn_9, .inl (k 0, 4, .inl tng9)), (tn_10, .inl (k 0, 4, .inl tng10))]) [0, 3, 4, 1, 5, 6, 7, 8, 2, 9, 10] rfl
        have hD9 := hD.sub (ws' := [(ob, .inr (3, [.ref oba, .ref ob_1])), (oba, .inr (1, [.ref oba_0, .int o_5, .int o_6])), (oba_0, .inl (k 0, 8, .inl o_7)), (ob_1, .inl (k 2, 1000, .inr (.inl g_30))), (tn, .inr (10, [.int tnv0, .int tnv1, .int tnv2, .ref tn_3, .ref tn_4, .ref tn_5, .ref tn_6, .int tnv7, .int tnv8, .ref tn_9, .ref tn_10, .int tnv11, .ref tn_12, .ref tn_13, .ref tn_14, .ref tn_15, .int tnv16, .ref tn_17, .ref tn_18, .ref tnt])), (tn_3, .inl (k 0, 10, .inl tng3)), (tn_4, .inl (k 0, 10, .inl tng4)), (tn_5, .inl (k 0, 10, .inl tng5)), (tn_6, .inl (k 0, 10, .inl tng6)), (tn_9, .inl (k 0, 4, .inl tng9)), (tn_10, .inl (k 0, 4, .inl tng10))]) [0, 3, 4, 1, 5, 6, 7, 8, 2, 9, 10] (by decide) rfl
        exact W.vret hx hb hr (fun tZ ht hW => ⟨⟨(o_5, o_6, o_7, g_30), rfl, hw_9, by rw [ht]; exact hP9, va_K.moved hW.alike hK, hD9⟩, hS.F ht⟩) hS.2.2 dX3_weighLanes_93
      · skip
        have zh_27 : r_20.toInt < 10 := z_nle h_27
        refine lv_iload hx hb dX3_weighLanes_74 (lv_at hl 9 rfl) ?_
        refine lv_bipush (v := 10) hx hb dX3_weighLanes_76 (by decide) ?_
        refine lv_icmp_lt (tgt := 94) hx hb dX3_weighLanes_78 (by decide) (fun _ => ?_) (fun c9 => absurd c9 (by decide))
        refine lv_iconst (v := 1) hx hb dX3_weighLanes_94 (by decide) ?_
        refine lv_iload hx hb dX3_weighLanes_95 (lv_at hl 0 rfl) ?_
        refine lv_ishl hx hb dX3_weighLanes_97 ?_
        refine lv_topi (fun x_31 ex_31 => ?_)
        have zx_31 : 1 ≤ x_31.toInt ∧ x_31.toInt ≤ 512 := by rw [ex_31]; exact z_shl1 9 512 rfl (by decide) (by omega) (by omega)
        refine lv_istore (lv' := [(11, .int x_31), (10, .int r_20), (9, .int x_16), (8, .int x_10), (0, .ref ob), (1, .ref tn), (2, .int p1), (3, .int p2), (4, .int p3), (5, .long p4), (7, .int 8)]) hx hb dX3_weighLanes_98 hl (by decide) rfl (fun ls hl => ?_)
        refine lv_lload hx hb dX3_weighLanes_100 (lv_at hl 9 rfl) ?_
        refine lv_ldc2 (v := 10) hx hb hown (hts _ tw_5_159) dX3_weighLanes_102 ?_
        refine lv_ldiv hx hb dX3_weighLanes_105 (by decide) ?_
        refine lv_topl (fun x_32 ex_32 => ?_)
        refine lv_lstore (lv' := [(12, .long x_32), (11, .int x_31), (10, .int r_20), (9, .int x_16), (8, .int x_10), (0, .ref ob), (1, .ref tn), (2, .int p1), (3, .int p2), (4, .int p3), (5, .long p4), (7, .int 8)]) hx hb dX3_weighLanes_106 hl (by decide) rfl (fun ls hl => ?_)
        refine lv_aload_n hx hb dX3_weighLanes_108 rfl (lv_at hl 5 rfl) ?_
        refine lv_aload_n hx hb dX3_weighLanes_109 rfl (lv_at hl 6 rfl) ?_
        refine lv_iload_n hx hb dX3_weighLanes_110 rfl (lv_at hl 7 rfl) ?_
        refine lv_iload_n hx hb dX3_weighLanes_111 rfl (lv_at hl 8 rfl) ?_
        refine lv_iload hx hb dX3_weighLanes_112 (lv_at hl 1 rfl) ?_
        refine lv_ior hx hb dX3_weighLanes_114 ?_
        refine lv_topi (fun x_33 ex_33 => ?_)
        refine lv_iload hx hb dX3_weighLanes_115 (lv_at hl 9 rfl) ?_
        refine lv_lload hx hb dX3_weighLanes_117 (lv_at hl 0 rfl) ?_
        refine lv_bipush (v := 10) hx hb dX3_weighLanes_119 (by decide) ?_
        refine lv_aload_n hx hb dX3_weighLanes_121 rfl (lv_at hl 6 rfl) ?_
        refine va_get (D := D) (ci := 10) (v := .ref tn_6) (C := RX10) (T := TX10) (N := 20) hx hb hts iT_X10 hown hK hP 5 rfl rfl 6 (by decide) (hts _ tw_1_98) (fun _ h9 => h9) rfl dX3_weighLanes_122 ?_
        refine lv_iload hx hb dX3_weighLanes_125 (lv_at hl 2 rfl) ?_
        refine va_iald hx hb hK hP 2 0 rfl rfl (z_in (by omega) (by omega)) dX3_weighLanes_127 ?_
        refine lv_topi (fun x_34 ex_34 => ?_)
        have zx_34r0 : 0 ≤ x_34.toInt ∧ x_34.toInt ≤ 10 := by rw [ex_34]; exact PR.ld hp_tng6_0 (by omega) (by omega) (by omega)
        refine lv_isub hx hb dX3_weighLanes_128 ?_
        refine lv_topi (fun x_35 ex_35 => ?_)
        have zx_35 : x_35.toInt = 10 - x_34.toInt := by rw [ex_35]; exact z_sub rfl rfl (by omega) (by omega)
        refine lv_i2l (v := x_35.toInt64) hx hb dX3_weighLanes_129 rfl ?_
        refine lv_lmul hx hb dX3_weighLanes_130 ?_
        refine lv_topl (fun x_36 ex_36 => ?_)
        refine lv_iload hx hb dX3_weighLanes_131 (lv_at hl 11 rfl) ?_
        refine lv_iconst (v := 1) hx hb dX3_weighLanes_133 (by decide) ?_
        refine lv_iadd hx hb dX3_weighLanes_134 ?_
        refine lv_topi (fun x_37 ex_37 => ?_)
        obtain rfl : x_37 = 9 := ex_37.trans (by decide)
        have hPc := hP.sub (ws' := [(ob, .inr (3, [.ref oba, .ref ob_1])), (oba, .inr (1, [.ref oba_0, .int o_5, .int o_6])), (oba_0, .inl (k 0, 8, .inl o_7)), (ob_1, .inl (k 2, 1000, .inr (.inl obg1))), (tn, .inr (10, [.int tnv0, .int tnv1, .int tnv2, .ref tn_3, .ref tn_4, .ref tn_5, .ref tn_6, .int tnv7, .int tnv8, .ref tn_9, .ref tn_10, .int tnv11, .ref tn_12, .ref tn_13, .ref tn_14, .ref tn_15, .int tnv16, .ref tn_17, .ref tn_18, .ref tnt])), (tn_3, .inl (k 0, 10, .inl tng3)), (tn_4, .inl (k 0, 10, .inl tng4)), (tn_5, .inl (k 0, 10, .inl tng5)), (tn_6, .inl (k 0, 10, .inl tng6)), (tn_9, .inl (k 0, 4, .inl tng9)), (tn_10, .inl (k 0, 4, .inl tng10))]) [0, 3, 4, 1, 5, 6, 7, 8, 2, 9, 10] rfl
        have hDc := hD.sub (ws' := [(ob, .inr (3, [.ref oba, .ref ob_1])), (oba, .inr (1, [.ref oba_0, .int o_5, .int o_6])), (oba_0, .inl (k 0, 8, .inl o_7)), (ob_1, .inl (k 2, 1000, .inr (.inl obg1))), (tn, .inr (10, [.int tnv0, .int tnv1, .int tnv2, .ref tn_3, .ref tn_4, .ref tn_5, .ref tn_6, .int tnv7, .int tnv8, .ref tn_9, .ref tn_10, .int tnv11, .ref tn_12, .ref tn_13, .ref tn_14, .ref tn_15, .int tnv16, .ref tn_17, .ref tn_18, .ref tnt])), (tn_3, .inl (k 0, 10, .inl tng3)), (tn_4, .inl (k 0, 10, .inl tng4)), (tn_5, .inl (k 0, 10, .inl tng5)), (tn_6, .inl (k 0, 10, .inl tng6)), (tn_9, .inl (k 0, 4, .inl tng9)), (tn_10, .inl (k 0, 4, .inl tng10))]) [0, 3, 4, 1, 5, 6, 7, 8, 2, 9, 10] (by decide) rfl
        have hFc := va_free (wc := [(ob, .inr (3, [.ref oba, .ref ob_1])), (oba, .inr (1, [.ref oba_0, .int o_5, .int o_6])), (oba_0, .inl (k 0, 8, .inl o_7)), (ob_1, .inl (k 2, 1000, .inr (.inl obg1))), (tn, .inr (10, [.int tnv0, .int tnv1, .int tnv2, .ref tn_3, .ref tn_4, .ref tn_5, .ref tn_6, .int tnv7, .int tnv8, .ref tn_9, .ref tn_10, .int tnv11, .ref tn_12, .ref tn_13, .ref tn_14, .ref tn_15, .int tnv16, .ref tn_17, .ref tn_18, .ref tnt])), (tn_3, .inl (k 0, 10, .inl tng3)), (tn_4, .inl (k 0, 10, .inl tng4)), (tn_5, .inl (k 0, 10, .inl tng5)), (tn_6, .inl (k 0, 10, .inl tng6)), (tn_9, .inl (k 0, 4, .inl tng9)), (tn_10, .inl (k 0, 4, .inl tng10))]) hD hS hA [0, 3, 4, 1, 5, 6, 7, 8, 2, 9, 10] rfl
        refine va_callv (va_runV (C := RX3) (As := [.ref tn, .int p1, .int x_33, .int p3, .long x_36, .int 9]) (rest := []) ⟨hx, hb, hml, hown, hts⟩ (c_X3_weighLanes_1 l D k ob tn p1 x_33 p3 x_36 oba ob_1 oba_0 o_5 o_6 o_7 obg1 tnv0 tnv1 tnv2 tn_3 tn_4 tn_5 tn_6 tnv7 tnv8 tn_9 tn_10 tnv11 tn_12 tn_13 tn_14 tn_15 tnv16 tn_17 tn_18 tnt tng3 tng4 tng5 tng6 tng9 tng10 H.size (show 0 ≤ p1.toInt ∧ p1.toInt ≤ 7 from by omega) hw_9 (show 0 ≤ tnv0.toInt ∧ tnv0.toInt ≤ 8 from by omega) (show 0 ≤ tnv2.toInt ∧ tnv2.toInt ≤ 10 from by omega) (show 0 ≤ tnv8.toInt ∧ tnv8.toInt ≤ 4 from by omega) (show 0 ≤ tnv11.toInt ∧ tnv11.toInt ≤ 6 from by omega) (show 0 ≤ tnv16.toInt ∧ tnv16.toInt ≤ 2 from by omega) hp_tng3_0 hp_tng4_0 hp_tng5_0 hp_tng6_0 hp_tng9_0 hp_tng10_0) (cwV 6 hts (gV tw_5_151 tw_5_153 tw_p_34 tw_1_12 tw_5_154) rfl rfl rfl hdV_X3_weighLanes ⟨Nat.le_of_ble_eq_true rfl, Nat.le_of_ble_eq_true rfl⟩) (cz_V hK hPc hDc hN (ci := 3) (q0 := 0) rfl rfl [.ref tn, .int p1, .int x_33, .int p3, .long x_36, .int 9]) rfl rfl hl.1 rfl (lv_room (Nat.le_of_ble_eq_true rfl)) dX3_weighLanes_135 ⟨Nat.le_of_ble_eq_true rfl, Nat.le_of_ble_eq_true rfl⟩) hS (fun q _ h => hFc q h) hFc (fun uZ tZ H1 locs ht hvm hw hB hz1 hk1 hS => ?_)
        obtain ⟨o_39, o_40, o_41, o_42⟩ := uZ
        obtain ⟨hP1, hK1, hD1⟩ := hB
        rw [ht] at hP1
        obtain ⟨hP, hD⟩ := va_join (wr := []) (w1 := [(ob, .inr (3, [.ref oba, .ref ob_1])), (oba, .inr (1, [.ref oba_0, .int o_39, .int o_40])), (oba_0, .inl (k 0, 8, .inl o_41)), (ob_1, .inl (k 2, 1000, .inr (.inl o_42))), (tn, .inr (10, [.int tnv0, .int tnv1, .int tnv2, .ref tn_3, .ref tn_4, .ref tn_5, .ref tn_6, .int tnv7, .int tnv8, .ref tn_9, .ref tn_10, .int tnv11, .ref tn_12, .ref tn_13, .ref tn_14, .ref tn_15, .int tnv16, .ref tn_17, .ref tn_18, .ref tnt])), (tn_3, .inl (k 0, 10, .inl tng3)), (tn_4, .inl (k 0, 10, .inl tng4)), (tn_5, .inl (k 0, 10, .inl tng5)), (tn_6, .inl (k 0, 10, .inl tng6)), (tn_9, .inl (k 0, 4, .inl tng9)), (tn_10, .inl (k 0, 4, .inl tng10))]) hP hD [0, 3, 4, 1, 5, 6, 7, 8, 2, 9, 10] [] rfl rfl (by decide) (by decide) hk1 hFc hP1 hD1
        clear hK1 hP1 hD1 hPc hDc hFc
        clear hk1 hz1 ht hvm
        have hP : va_P D vwCl [(ob, .inr (3, [.ref oba, .ref ob_1])), (oba, .inr (1, [.ref oba_0, .int o_39, .int o_40])), (oba_0, .inl (k 0, 8, .inl o_41)), (ob_1, .inl (k 2, 1000, .inr (.inl o_42))), (tn, .inr (10, [.int tnv0, .int tnv1, .int tnv2, .ref tn_3, .ref tn_4, .ref tn_5, .ref tn_6, .int tnv7, .int tnv8, .ref tn_9, .ref tn_10, .int tnv11, .ref tn_12, .ref tn_13, .ref tn_14, .ref tn_15, .int tnv16, .ref tn_17, .ref tn_18, .ref tnt])), (tn_3, .inl (k 0, 10, .inl tng3)), (tn_4, .inl (k 0, 10, .inl tng4)), (tn_5, .inl (k 0, 10, .inl tng5)), (tn_6, .inl (k 0, 10, .inl tng6)), (tn_9, .inl (k 0, 4, .inl tng9)), (tn_10, .inl (k 0, 4, .inl tng10))] H1 := hP
        have hD : va_D A [(ob, .inr (3, [.ref oba, .ref ob_1])), (oba, .inr (1, [.ref oba_0, .int o_39, .int o_40])), (oba_0, .inl (k 0, 8, .inl o_41)), (ob_1, .inl (k 2, 1000, .inr (.inl o_42))), (tn, .inr (10, [.int tnv0, .int tnv1, .int tnv2, .ref tn_3, .ref tn_4, .ref tn_5, .ref tn_6, .int tnv7, .int tnv8, .ref tn_9, .ref tn_10, .int tnv11, .ref tn_12, .ref tn_13, .ref tn_14, .ref tn_15, .int tnv16, .ref tn_17, .ref tn_18, .ref tnt])), (tn_3, .inl (k 0, 10, .inl tng3)), (tn_4, .inl (k 0, 10, .inl tng4)), (tn_5, .inl (k 0, 10, .inl tng5)), (tn_6, .inl (k 0, 10, .inl tng6)), (tn_9, .inl (k 0, 4, .inl tng9)), (tn_10, .inl (k 0, 4, .inl tng10))] := hD
        generalize H1 = H at hP hS ⊢
        have hw_43 : (PR 8 1 0 0 1000000 o_41) := hw
        have hw_44 := hw_43
        clear hw
        refine lv_aload_n hx hb dX3_weighLanes_138 rfl (lv_at hl 5 rfl) ?_
        refine lv_aload_n hx hb dX3_weighLanes_139 rfl (lv_at hl 6 rfl) ?_
        refine lv_iload_n hx hb dX3_weighLanes_140 rfl (lv_at hl 7 rfl) ?_
        refine lv_iload_n hx hb dX3_weighLanes_141 rfl (lv_at hl 8 rfl) ?_
        refine lv_iload hx hb dX3_weighLanes_142 (lv_at hl 1 rfl) ?_
        refine lv_ior hx hb dX3_weighLanes_144 ?_
        refine lv_topi (fun x_45 ex_45 => ?_)
        obtain rfl : x_33 = x_45 := ex_33.trans ex_45.symm
        refine lv_iload hx hb dX3_weighLanes_145 (lv_at hl 9 rfl) ?_
        refine lv_iload hx hb dX3_weighLanes_147 (lv_at hl 1 rfl) ?_
        refine lv_ior hx hb dX3_weighLanes_149 ?_
        refine lv_topi (fun x_46 ex_46 => ?_)
        have zrp3 := z_rng p3
        refine lv_lload hx hb dX3_weighLanes_150 (lv_at hl 0 rfl) ?_
        refine lv_aload_n hx hb dX3_weighLanes_152 rfl (lv_at hl 6 rfl) ?_
        refine va_get (D := D) (ci := 10) (v := .ref tn_6) (C := RX10) (T := TX10) (N := 20) hx hb hts iT_X10 hown hK hP 4 rfl rfl 6 (by decide) (hts _ tw_1_98) (fun _ h9 => h9) rfl dX3_weighLanes_153 ?_
        refine lv_iload hx hb dX3_weighLanes_156 (lv_at hl 2 rfl) ?_
        refine va_iald hx hb hK hP 8 0 rfl rfl (z_in (by omega) (by omega)) dX3_weighLanes_158 ?_
        refine lv_topi (fun x_47 ex_47 => ?_)
        obtain rfl : x_34 = x_47 := ex_34.trans ex_47.symm
        refine lv_i2l (v := x_34.toInt64) hx hb dX3_weighLanes_159 rfl ?_
        refine lv_lmul hx hb dX3_weighLanes_160 ?_
        refine lv_topl (fun x_48 ex_48 => ?_)
        refine lv_iload hx hb dX3_weighLanes_161 (lv_at hl 11 rfl) ?_
        refine lv_iconst (v := 1) hx hb dX3_weighLanes_163 (by decide) ?_
        refine lv_iadd hx hb dX3_weighLanes_164 ?_
        refine lv_topi (fun x_49 ex_49 => ?_)
        obtain rfl : x_49 = 9 := ex_49.trans (by decide)
        have hPc := hP.sub (ws' := [(ob, .inr (3, [.ref oba, .ref ob_1])), (oba, .inr (1, [.ref oba_0, .int o_39, .int o_40])), (oba_0, .inl (k 0, 8, .inl o_41)), (ob_1, .inl (k 2, 1000, .inr (.inl o_42))), (tn, .inr (10, [.int tnv0, .int tnv1, .int tnv2, .ref tn_3, .ref tn_4, .ref tn_5, .ref tn_6, .int tnv7, .int tnv8, .ref tn_9, .ref tn_10, .int tnv11, .ref tn_12, .ref tn_13, .ref tn_14, .ref tn_15, .int tnv16, .ref tn_17, .ref tn_18, .ref tnt])), (tn_3, .inl (k 0, 10, .inl tng3)), (tn_4, .inl (k 0, 10, .inl tng4)), (tn_5, .inl (k 0, 10, .inl tng5)), (tn_6, .inl (k 0, 10, .inl tng6)), (tn_9, .inl (k 0, 4, .inl tng9)), (tn_10, .inl (k 0, 4, .inl tng10))]) [0, 1, 2, 3, 4, 5, 6, 7, 8, 9, 10] rfl
        have hDc := hD.sub (ws' := [(ob, .inr (3, [.ref oba, .ref ob_1])), (oba, .inr (1, [.ref oba_0, .int o_39, .int o_40])), (oba_0, .inl (k 0, 8, .inl o_41)), (ob_1, .inl (k 2, 1000, .inr (.inl o_42))), (tn, .inr (10, [.int tnv0, .int tnv1, .int tnv2, .ref tn_3, .ref tn_4, .ref tn_5, .ref tn_6, .int tnv7, .int tnv8, .ref tn_9, .ref tn_10, .int tnv11, .ref tn_12, .ref tn_13, .ref tn_14, .ref tn_15, .int tnv16, .ref tn_17, .ref tn_18, .ref tnt])), (tn_3, .inl (k 0, 10, .inl tng3)), (tn_4, .inl (k 0, 10, .inl tng4)), (tn_5, .inl (k 0, 10, .inl tng5)), (tn_6, .inl (k 0, 10, .inl tng6)), (tn_9, .inl (k 0, 4, .inl tng9)), (tn_10, .inl (k 0, 4, .inl tng10))]) [0, 1, 2, 3, 4, 5, 6, 7, 8, 9, 10] (by decide) rfl
        have hFc := va_free (wc := [(ob, .inr (3, [.ref oba, .ref ob_1])), (oba, .inr (1, [.ref oba_0, .int o_39, .int o_40])), (oba_0, .inl (k 0, 8, .inl o_41)), (ob_1, .inl (k 2, 1000, .inr (.inl o_42))), (tn, .inr (10, [.int tnv0, .int tnv1, .int tnv2, .ref tn_3, .ref tn_4, .ref tn_5, .ref tn_6, .int tnv7, .int tnv8, .ref tn_9, .ref tn_10, .int tnv11, .ref tn_12, .ref tn_13, .ref tn_14, .ref tn_15, .int tnv16, .ref tn_17, .ref tn_18, .ref tnt])), (tn_3, .inl (k 0, 10, .inl tng3)), (tn_4, .inl (k 0, 10, .inl tng4)), (tn_5, .inl (k 0, 10, .inl tng5)), (tn_6, .inl (k 0, 10, .inl tng6)), (tn_9, .inl (k 0, 4, .inl tng9)), (tn_10, .inl (k 0, 4, .inl tng10))]) hD hS hA [0, 1, 2, 3, 4, 5, 6, 7, 8, 9, 10] rfl
        refine va_callv (va_runV (C := RX3) (As := [.ref tn, .int p1, .int x_33, .int x_46, .long x_48, .int 9]) (rest := []) ⟨hx, hb, hml, hown, hts⟩ (c_X3_weighLanes_1 l D k ob tn p1 x_33 x_46 x_48 oba ob_1 oba_0 o_39 o_40 o_41 o_42 tnv0 tnv1 tnv2 tn_3 tn_4 tn_5 tn_6 tnv7 tnv8 tn_9 tn_10 tnv11 tn_12 tn_13 tn_14 tn_15 tnv16 tn_17 tn_18 tnt tng3 tng4 tng5 tng6 tng9 tng10 H.size (show 0 ≤ p1.toInt ∧ p1.toInt ≤ 7 from by omega) hw_44 (show 0 ≤ tnv0.toInt ∧ tnv0.toInt ≤ 8 from by omega) (show 0 ≤ tnv2.toInt ∧ tnv2.toInt ≤ 10 from by omega) (show 0 ≤ tnv8.toInt ∧ tnv8.toInt ≤ 4 from by omega) (show 0 ≤ tnv11.toInt ∧ tnv11.toInt ≤ 6 from by omega) (show 0 ≤ tnv16.toInt ∧ tnv16.toInt ≤ 2 from by omega) hp_tng3_0 hp_tng4_0 hp_tng5_0 hp_tng6_0 hp_tng9_0 hp_tng10_0) (cwV 6 hts (gV tw_5_151 tw_5_153 tw_p_34 tw_1_12 tw_5_154) rfl rfl rfl hdV_X3_weighLanes ⟨Nat.le_of_ble_eq_true rfl, Nat.le_of_ble_eq_true rfl⟩) (cz_V hK hPc hDc hN (ci := 3) (q0 := 0) rfl rfl [.ref tn, .int p1, .int x_33, .int x_46, .long x_48, .int 9]) rfl rfl hl.1 rfl (lv_room (Nat.le_of_ble_eq_true rfl)) dX3_weighLanes_165 ⟨Nat.le_of_ble_eq_true rfl, Nat.le_of_ble_eq_true rfl⟩) hS (fun q _ h => hFc q h) hFc (fun uZ tZ H1 locs ht hvm hw hB hz1 hk1 hS => ?_)
        obtain ⟨o_51, o_52, o_53, o_54⟩ := uZ
        obtain ⟨hP1, hK1, hD1⟩ := hB
        rw [ht] at hP1
        obtain ⟨hP, hD⟩ := va_join (wr := []) (w1 := [(ob, .inr (3, [.ref oba, .ref ob_1])), (oba, .inr (1, [.ref oba_0, .int o_51, .int o_52])), (oba_0, .inl (k 0, 8, .inl o_53)), (ob_1, .inl (k 2, 1000, .inr (.inl o_54))), (tn, .inr (10, [.int tnv0, .int tnv1, .int tnv2, .ref tn_3, .ref tn_4, .ref tn_5, .ref tn_6, .int tnv7, .int tnv8, .ref tn_9, .ref tn_10, .int tnv11, .ref tn_12, .ref tn_13, .ref tn_14, .ref tn_15, .int tnv16, .ref tn_17, .ref tn_18, .ref tnt])), (tn_3, .inl (k 0, 10, .inl tng3)), (tn_4, .inl (k 0, 10, .inl tng4)), (tn_5, .inl (k 0, 10, .inl tng5)), (tn_6, .inl (k 0, 10, .inl tng6)), (tn_9, .inl (k 0, 4, .inl tng9)), (tn_10, .inl (k 0, 4, .inl tng10))]) hP hD [0, 1, 2, 3, 4, 5, 6, 7, 8, 9, 10] [] rfl rfl (by decide) (by decide) hk1 hFc hP1 hD1
        clear hK1 hP1 hD1 hPc hDc hFc
        clear hk1 hz1 ht hvm
        have hP : va_P D vwCl [(ob, .inr (3, [.ref oba, .ref ob_1])), (oba, .inr (1, [.ref oba_0, .int o_51, .int o_52])), (oba_0, .inl (k 0, 8, .inl o_53)), (ob_1, .inl (k 2, 1000, .inr (.inl o_54))), (tn, .inr (10, [.int tnv0, .int tnv1, .int tnv2, .ref tn_3, .ref tn_4, .ref tn_5, .ref tn_6, .int tnv7, .int tnv8, .ref tn_9, .ref tn_10, .int tnv11, .ref tn_12, .ref tn_13, .ref tn_14, .ref tn_15, .int tnv16, .ref tn_17, .ref tn_18, .ref tnt])), (tn_3, .inl (k 0, 10, .inl tng3)), (tn_4, .inl (k 0, 10, .inl tng4)), (tn_5, .inl (k 0, 10, .inl tng5)), (tn_6, .inl (k 0, 10, .inl tng6)), (tn_9, .inl (k 0, 4, .inl tng9)), (tn_10, .inl (k 0, 4, .inl tng10))] H1 := hP
        have hD : va_D A [(ob, .inr (3, [.ref oba, .ref ob_1])), (oba, .inr (1, [.ref oba_0, .int o_51, .int o_52])), (oba_0, .inl (k 0, 8, .inl o_53)), (ob_1, .inl (k 2, 1000, .inr (.inl o_54))), (tn, .inr (10, [.int tnv0, .int tnv1, .int tnv2, .ref tn_3, .ref tn_4, .ref tn_5, .ref tn_6, .int tnv7, .int tnv8, .ref tn_9, .ref tn_10, .int tnv11, .ref tn_12, .ref tn_13, .ref tn_14, .ref tn_15, .int tnv16, .ref tn_17, .ref tn_18, .ref tnt])), (tn_3, .inl (k 0, 10, .inl tng3)), (tn_4, .inl (k 0, 10, .inl tng4)), (tn_5, .inl (k 0, 10, .inl tng5)), (tn_6, .inl (k 0, 10, .inl tng6)), (tn_9, .inl (k 0, 4, .inl tng9)), (tn_10, .inl (k 0, 4, .inl tng10))] := hD
        generalize H1 = H at hP hS ⊢
        have hw_55 : (PR 8 1 0 0 1000000 o_53) := hw
        have hw_56 := hw_55
        clear hw
        have hP9 := hP.sub (ws' := [(ob, .inr (3, [.ref oba, .ref ob_1])), (oba, .inr (1, [.ref oba_0, .int o_51, .int o_52])), (oba_0, .inl (k 0, 8, .inl o_53)), (ob_1, .inl (k 2, 1000, .inr (.inl o_54))), (tn, .inr (10, [.int tnv0, .int tnv1, .int tnv2, .ref tn_3, .ref tn_4, .ref tn_5, .ref tn_6, .int tnv7, .int tnv8, .ref tn_9, .ref tn_10, .int tnv11, .ref tn_12, .ref tn_13, .ref tn_14, .ref tn_15, .int tnv16, .ref tn_17, .ref tn_18, .ref tnt])), (tn_3, .inl (k 0, 10, .inl tng3)), (tn_4, .inl (k 0, 10, .inl tng4)), (tn_5, .inl (k 0, 10, .inl tng5)), (tn_6, .inl (k 0, 10, .inl tng6)), (tn_9, .inl (k 0, 4, .inl tng9)), (tn_10, .inl (k 0, 4, .inl tng10))]) [0, 1, 2, 3, 4, 5, 6, 7, 8, 9, 10] rfl
        have hD9 := hD.sub (ws' := [(ob, .inr (3, [.ref oba, .ref ob_1])), (oba, .inr (1, [.ref oba_0, .int o_51, .int o_52])), (oba_0, .inl (k 0, 8, .inl o_53)), (ob_1, .inl (k 2, 1000, .inr (.inl o_54))), (tn, .inr (10, [.int tnv0, .int tnv1, .int tnv2, .ref tn_3, .ref tn_4, .ref tn_5, .ref tn_6, .int tnv7, .int tnv8, .ref tn_9, .ref tn_10, .int tnv11, .ref tn_12, .ref tn_13, .ref tn_14, .ref tn_15, .int tnv16, .ref tn_17, .ref tn_18, .ref tnt])), (tn_3, .inl (k 0, 10, .inl tng3)), (tn_4, .inl (k 0, 10, .inl tng4)), (tn_5, .inl (k 0, 10, .inl tng5)), (tn_6, .inl (k 0, 10, .inl tng6)), (tn_9, .inl (k 0, 4, .inl tng9)), (tn_10, .inl (k 0, 4, .inl tng10))]) [0, 1, 2, 3, 4, 5, 6, 7, 8, 9, 10] (by decide) rfl
        exact W.vret hx hb hr (fun tZ ht hW => ⟨⟨(o_51, o_52, o_53, o_54), rfl, hw_56, by rw [ht]; exact hP9, va_K.moved hW.alike hK, hD9⟩, hS.F ht⟩) hS.2.2 dX3_weighLanes_168
  · skip
    have zh_11 : 1000 ≤ x_10.toInt := z_nlt h_11
    have hP9 := hP.sub (ws' := [(ob, .inr (3, [.ref oba, .ref ob_1])), (oba, .inr (1, [.ref oba_0, .int o_5, .int o_6])), (oba_0, .inl (k 0, 8, .inl o_7)), (ob_1, .inl (k 2, 1000, .inr (.inl obg1))), (tn, .inr (10, [.int tnv0, .int tnv1, .int tnv2, .ref tn_3, .ref tn_4, .ref tn_5, .ref tn_6, .int tnv7, .int tnv8, .ref tn_9, .ref tn_10, .int tnv11, .ref tn_12, .ref tn_13, .ref tn_14, .ref tn_15, .int tnv16, .ref tn_17, .ref tn_18, .ref tnt])), (tn_3, .inl (k 0, 10, .inl tng3)), (tn_4, .inl (k 0, 10, .inl tng4)), (tn_5, .inl (k 0, 10, .inl tng5)), (tn_6, .inl (k 0, 10, .inl tng6)), (tn_9, .inl (k 0, 4, .inl tng9)), (tn_10, .inl (k 0, 4, .inl tng10))]) [0, 3, 4, 1, 5, 6, 7, 8, 2, 9, 10] rfl
    have hD9 := hD.sub (ws' := [(ob, .inr (3, [.ref oba, .ref ob_1])), (oba, .inr (1, [.ref oba_0, .int o_5, .int o_6])), (oba_0, .inl (k 0, 8, .inl o_7)), (ob_1, .inl (k 2, 1000, .inr (.inl obg1))), (tn, .inr (10, [.int tnv0, .int tnv1, .int tnv2, .ref tn_3, .ref tn_4, .ref tn_5, .ref tn_6, .int tnv7, .int tnv8, .ref tn_9, .ref tn_10, .int tnv11, .ref tn_12, .ref tn_13, .ref tn_14, .ref tn_15, .int tnv16, .ref tn_17, .ref tn_18, .ref tnt])), (tn_3, .inl (k 0, 10, .inl tng3)), (tn_4, .inl (k 0, 10, .inl tng4)), (tn_5, .inl (k 0, 10, .inl tng5)), (tn_6, .inl (k 0, 10, .inl tng6)), (tn_9, .inl (k 0, 4, .inl tng9)), (tn_10, .inl (k 0, 4, .inl tng10))]) [0, 3, 4, 1, 5, 6, 7, 8, 2, 9, 10] (by decide) rfl
    exact W.vret hx hb hr (fun tZ ht hW => ⟨⟨(o_5, o_6, o_7, obg1), rfl, hw_9, by rw [ht]; exact hP9, va_K.moved hW.alike hK, hD9⟩, hS.F ht⟩) hS.2.2 dX3_weighLanes_33
set_option maxHeartbeats 4000000 in
set_option maxRecDepth 100000 in
theorem c_X3_weighLanes_3 (l : Launch) (D : va_G) (k : Nat → ClassId) (ob : Nat) (tn : Nat) (p1 : Int32) (p2 : Int32) (p3 : Int32) (p4 : Int64) (oba : Nat) (ob_1 : Nat) (oba_0 : Nat) (obav1 : Int32) (obav2 : Int32) (obag0 : Nat → Int32) (obg1 : Nat → Int64) (tnv0 : Int32) (tnv1 : Int32) (tnv2 : Int32) (tn_3 : Nat) (tn_4 : Nat) (tn_5 : Nat) (tn_6 : Nat) (tnv7 : Int32) (tnv8 : Int32) (tn_9 : Nat) (tn_10 : Nat) (tnv11 : Int32) (tn_12 : Nat) (tn_13 : Nat) (tn_14 : Nat) (tn_15 : Nat) (tnv16 : Int32) (tn_17 : Nat) (tn_18 : Nat) (tnt : Nat) (tng3 : Nat → Int32) (tng4 : Nat → Int32) (tng5 : Nat → Int32) (tng6 : Nat → Int32) (tng9 : Nat → Int32) (tng10 : Nat → Int32) (sz : Nat) (h_p1 : 0 ≤ p1.toInt ∧ p1.toInt ≤ 7) (hp_obag0_0 : PR 8 1 0 0 1000000 obag0) (h_tnv0 : 0 ≤ tnv0.toInt ∧ tnv0.toInt ≤ 8) (h_tnv2 : 0 ≤ tnv2.toInt ∧ tnv2.toInt ≤ 10) (h_tnv8 : 0 ≤ tnv8.toInt ∧ tnv8.toInt ≤ 4) (h_tnv11 : 0 ≤ tnv11.toInt ∧ tnv11.toInt ≤ 6) (h_tnv16 : 0 ≤ tnv16.toInt ∧ tnv16.toInt ≤ 2) (hp_tng3_0 : PR 10 1 0 0 7 tng3) (hp_tng4_0 : PR 10 1 0 0 7 tng4) (hp_tng5_0 : PR 10 1 0 0 60 tng5) (hp_tng6_0 : PR 10 1 0 0 10 tng6) (hp_tng9_0 : PR 4 1 0 0 7 tng9) (hp_tng10_0 : PR 4 1 0 0 99 tng10) : Met l yX3_weighLanes (ww yX3_weighLanes cX3_weighLanes 14 none) ({ frames := 7, cells := 0, slots := 0, locals := 199 }) (Pre0 D k [(ob, .inr (3, [.ref oba, .ref ob_1])), (oba, .inr (1, [.ref oba_0, .int obav1, .int obav2])), (oba_0, .inl (k 0, 8, .inl obag0)), (ob_1, .inl (k 2, 1000, .inr (.inl obg1))), (tn, .inr (10, [.int tnv0, .int tnv1, .int tnv2, .ref tn_3, .ref tn_4, .ref tn_5, .ref tn_6, .int tnv7, .int tnv8, .ref tn_9, .ref tn_10, .int tnv11, .ref tn_12, .ref tn_13, .ref tn_14, .ref tn_15, .int tnv16, .ref tn_17, .ref tn_18, .ref tnt])), (tn_3, .inl (k 0, 10, .inl tng3)), (tn_4, .inl (k 0, 10, .inl tng4)), (tn_5, .inl (k 0, 10, .inl tng5)), (tn_6, .inl (k 0, 10, .inl tng6)), (tn_9, .inl (k 0, 4, .inl tng9)), (tn_10, .inl (k 0, 4, .inl tng10))] sz [.ref ob, .ref tn, .int p1, .int p2, .int p3, .long p4, .int 7]) (va_Qv (fun (u : Int32 × Int32 × (Nat → Int32) × (Nat → Int64)) => match u with | (obav1z, obav2z, obag0z, obg1z) => (PR 8 1 0 0 1000000 obag0z)) (fun (u : Int32 × Int32 × (Nat → Int32) × (Nat → Int64)) tZ => match u with | (obav1z, obav2z, obag0z, obg1z) => Bw D k (va_A [(ob, .inr (3, [.ref oba, .ref ob_1])), (oba, .inr (1, [.ref oba_0, .int obav1, .int obav2])), (oba_0, .inl (k 0, 8, .inl obag0)), (ob_1, .inl (k 2, 1000, .inr (.inl obg1))), (tn, .inr (10, [.int tnv0, .int tnv1, .int tnv2, .ref tn_3, .ref tn_4, .ref tn_5, .ref tn_6, .int tnv7, .int tnv8, .ref tn_9, .ref tn_10, .int tnv11, .ref tn_12, .ref tn_13, .ref tn_14, .ref tn_15, .int tnv16, .ref tn_17, .ref tn_18, .ref tnt])), (tn_3, .inl (k 0, 10, .inl tng3)), (tn_4, .inl (k 0, 10, .inl tng4)), (tn_5, .inl (k 0, 10, .inl tng5)), (tn_6, .inl (k 0, 10, .inl tng6)), (tn_9, .inl (k 0, 4, .inl tng9)), (tn_10, .inl (k 0, 4, .inl tng10))] sz) [(ob, .inr (3, [.ref oba, .ref ob_1])), (oba, .inr (1, [.ref oba_0, .int obav1z, .int obav2z])), (oba_0, .inl (k 0, 8, .inl obag0z)), (ob_1, .inl (k 2, 1000, .inr (.inl obg1z))), (tn, .inr (10, [.int tnv0, .int tnv1, .int tnv2, .ref tn_3, .ref tn_4, .ref tn_5, .ref tn_6, .int tnv7, .int tnv8, .ref tn_9, .ref tn_10, .int tnv11, .ref tn_12, .ref tn_13, .ref tn_14, .ref tn_15, .int tnv16, .ref tn_17, .ref tn_18, .ref tnt])), (tn_3, .inl (k 0, 10, .inl tng3)), (tn_4, .inl (k 0, 10, .inl tng4)), (tn_5, .inl (k 0, 10, .inl tng5)), (tn_6, .inl (k 0, 10, .inl tng6)), (tn_9, .inl (k 0, 4, .inl tng9)), (tn_10, .inl (k 0, 4, .inl tng10))] tZ) (va_A [(ob, .inr (3, [.ref oba, .ref ob_1])), (oba, .inr (1, [.ref oba_0, .int obav1, .int obav2])), (oba_0, .inl (k 0, 8, .inl obag0)), (ob_1, .inl (k 2, 1000, .inr (.inl obg1))), (tn, .inr (10, [.int tnv0, .int tnv1, .int tnv2, .ref tn_3, .ref tn_4, .ref tn_5, .ref tn_6, .int tnv7, .int tnv8, .ref tn_9, .ref tn_10, .int tnv11, .ref tn_12, .ref tn_13, .ref tn_14, .ref tn_15, .int tnv16, .ref tn_17, .ref tn_18, .ref tnt])), (tn_3, .inl (k 0, 10, .inl tng3)), (tn_4, .inl (k 0, 10, .inl tng4)), (tn_5, .inl (k 0, 10, .inl tng5)), (tn_6, .inl (k 0, 10, .inl tng6)), (tn_9, .inl (k 0, 4, .inl tng9)), (tn_10, .inl (k 0, 4, .inl tng10))] sz)) 0 0 (va_A [(ob, .inr (3, [.ref oba, .ref ob_1])), (oba, .inr (1, [.ref oba_0, .int obav1, .int obav2])), (oba_0, .inl (k 0, 8, .inl obag0)), (ob_1, .inl (k 2, 1000, .inr (.inl obg1))), (tn, .inr (10, [.int tnv0, .int tnv1, .int tnv2, .ref tn_3, .ref tn_4, .ref tn_5, .ref tn_6, .int tnv7, .int tnv8, .ref tn_9, .ref tn_10, .int tnv11, .ref tn_12, .ref tn_13, .ref tn_14, .ref tn_15, .int tnv16, .ref tn_17, .ref tn_18, .ref tnt])), (tn_3, .inl (k 0, 10, .inl tng3)), (tn_4, .inl (k 0, 10, .inl tng4)), (tn_5, .inl (k 0, 10, .inl tng5)), (tn_6, .inl (k 0, 10, .inl tng6)), (tn_9, .inl (k 0, 4, .inl tng9)), (tn_10, .inl (k 0, 4, .inl tng10))] sz) := by
  refine Met.ofW (cc := cX3_weighLanes) (maxL := 14) (ret := none) (by decide +kernel) rfl ?_
  intro p e s m args below meth c s₁ B hml hv
  obtain ⟨rfl, hsz, hP, hK, hD0, hN⟩ := hv
  have hx := B.exec
  have hb := B.bytes
  have hr := B.returns
  have hts : ∀ w ∈ TT, w.before _ s = true := fun w h => atoms_spec (ws := ww yX3_weighLanes cX3_weighLanes 14 none) B.pre w (List.mem_cons_of_mem _ h)
  have hown : s.vm.findClass RX3 = some m.cls := findClass_of_methodNamed B.named
  have hlocks := B.notSynchronized
  subst hsz
  have hD := hD0.self (sz := s.heap.size)
  generalize hAe : va_A [(ob, .inr (3, [.ref oba, .ref ob_1])), (oba, .inr (1, [.ref oba_0, .int obav1, .int obav2])), (oba_0, .inl (k 0, 8, .inl obag0)), (ob_1, .inl (k 2, 1000, .inr (.inl obg1))), (tn, .inr (10, [.int tnv0, .int tnv1, .int tnv2, .ref tn_3, .ref tn_4, .ref tn_5, .ref tn_6, .int tnv7, .int tnv8, .ref tn_9, .ref tn_10, .int tnv11, .ref tn_12, .ref tn_13, .ref tn_14, .ref tn_15, .int tnv16, .ref tn_17, .ref tn_18, .ref tnt])), (tn_3, .inl (k 0, 10, .inl tng3)), (tn_4, .inl (k 0, 10, .inl tng4)), (tn_5, .inl (k 0, 10, .inl tng5)), (tn_6, .inl (k 0, 10, .inl tng6)), (tn_9, .inl (k 0, 4, .inl tng9)), (tn_10, .inl (k 0, 4, .inl tng10))] s.heap.size = A at hD ⊢
  have hA : ∀ q : Nat, s.heap.size ≤ q → A q := fun q h => by rw [← hAe]; exact Or.inr h
  have hS : va_S A s.heap s.heap [] := va_S.rf
  have hl := lv_entry ([.ref ob, .ref tn, .int p1, .int p2, .int p3, .long p4, .int 7]) (n := 14) (Nat.le_of_ble_eq_true rfl)
  rw [lg_entry_eq]
  generalize (lg_sl ([.ref ob, .ref tn, .int p1, .int p2, .int p3, .long p4, .int 7]) ++ List.replicate (14 - (lg_sl ([.ref ob, .ref tn, .int p1, .int p2, .int p3, .long p4, .int 7])).length) Slot.unset).toArray = ls at hl ⊢
  have hl : lv_has ls 14 [(0, .ref ob), (1, .ref tn), (2, .int p1), (3, .int p2), (4, .int p3), (5, .long p4), (7, .int 7)] := hl
  refine lv_aload_n hx hb dX3_weighLanes_0 rfl (lv_at hl 0 rfl) ?_
  refine va_get (D := D) (ci := 3) (v := .ref oba) (C := RX3) (T := TX3) (N := 2) hx hb hts iT_X3 hown hK hP 0 rfl rfl 0 (by decide) (hts _ tw_2_163) (fun _ h9 => h9) rfl dX3_weighLanes_1 ?_
  refine lv_aload_n hx hb dX3_weighLanes_4 rfl (lv_at hl 1 rfl) ?_
  refine lv_aload_n hx hb dX3_weighLanes_5 rfl (lv_at hl 1 rfl) ?_
  have hPc := hP.sub (ws' := [(tn, .inr (10, [.int tnv0, .int tnv1, .int tnv2, .ref tn_3, .ref tn_4, .ref tn_5, .ref tn_6, .int tnv7, .int tnv8, .ref tn_9, .ref tn_10, .int tnv11, .ref tn_12, .ref tn_13, .ref tn_14, .ref tn_15, .int tnv16, .ref tn_17, .ref tn_18, .ref tnt]))]) [4] rfl
  have hDc := hD.sub (ws' := [(tn, .inr (10, [.int tnv0, .int tnv1, .int tnv2, .ref tn_3, .ref tn_4, .ref tn_5, .ref tn_6, .int tnv7, .int tnv8, .ref tn_9, .ref tn_10, .int tnv11, .ref tn_12, .ref tn_13, .ref tn_14, .ref tn_15, .int tnv16, .ref tn_17, .ref tn_18, .ref tnt]))]) [4] (by decide) rfl
  have hFc := va_free (wc := [(tn, .inr (10, [.int tnv0, .int tnv1, .int tnv2, .ref tn_3, .ref tn_4, .ref tn_5, .ref tn_6, .int tnv7, .int tnv8, .ref tn_9, .ref tn_10, .int tnv11, .ref tn_12, .ref tn_13, .ref tn_14, .ref tn_15, .int tnv16, .ref tn_17, .ref tn_18, .ref tnt]))]) hD hS hA [4] rfl
  refine va_calli (va_runV (C := RX10) (As := []) (rest := [.ref tn, .ref oba]) ⟨hx, hb, hml, hown, hts⟩ (c_X10_openLanes l D k tn tnv0 tnv1 tnv2 tn_3 tn_4 tn_5 tn_6 tnv7 tnv8 tn_9 tn_10 tnv11 tn_12 tn_13 tn_14 tn_15 tnv16 tn_17 tn_18 tnt s.heap.size (show 0 ≤ tnv0.toInt ∧ tnv0.toInt ≤ 8 from by omega) (show 0 ≤ tnv2.toInt ∧ tnv2.toInt ≤ 10 from by omega) (show 0 ≤ tnv8.toInt ∧ tnv8.toInt ≤ 4 from by omega) (show 0 ≤ tnv11.toInt ∧ tnv11.toInt ≤ 6 from by omega) (show 0 ≤ tnv16.toInt ∧ tnv16.toInt ≤ 2 from by omega)) (cwV 0 hts (gV tw_5_155 tw_3_180 tw_3_181 tw_1_3 tw_3_182) rfl rfl rfl hdV_X10_openLanes ⟨Nat.le_of_ble_eq_true rfl, Nat.le_of_ble_eq_true rfl⟩) (cz_V hK hPc hDc hN (ci := 10) (q0 := 0) rfl rfl []) rfl rfl hl.1 rfl (lv_room (Nat.le_of_ble_eq_true rfl)) dX3_weighLanes_6 ⟨Nat.le_of_ble_eq_true rfl, Nat.le_of_ble_eq_true rfl⟩) hS (fun q _ h => hFc q h) hFc (fun r_1 uZ tZ H1 locs ht hvm hw hB hz1 hk1 hS => ?_)
  obtain ⟨hP1, hK1, hD1⟩ := hB
  rw [ht] at hP1
  obtain ⟨hP, hD⟩ := va_join (wr := [(ob, .inr (3, [.ref oba, .ref ob_1])), (oba, .inr (1, [.ref oba_0, .int obav1, .int obav2])), (oba_0, .inl (k 0, 8, .inl obag0)), (ob_1, .inl (k 2, 1000, .inr (.inl obg1))), (tn_3, .inl (k 0, 10, .inl tng3)), (tn_4, .inl (k 0, 10, .inl tng4)), (tn_5, .inl (k 0, 10, .inl tng5)), (tn_6, .inl (k 0, 10, .inl tng6)), (tn_9, .inl (k 0, 4, .inl tng9)), (tn_10, .inl (k 0, 4, .inl tng10))]) (w1 := [(tn, .inr (10, [.int tnv0, .int tnv1, .int tnv2, .ref tn_3, .ref tn_4, .ref tn_5, .ref tn_6, .int tnv7, .int tnv8, .ref tn_9, .ref tn_10, .int tnv11, .ref tn_12, .ref tn_13, .ref tn_14, .ref tn_15, .int tnv16, .ref tn_17, .ref tn_18, .ref tnt]))]) hP hD [4] [0, 1, 2, 3, 5, 6, 7, 8, 9, 10] rfl rfl (by decide) (by decide) hk1 hFc hP1 hD1
  clear hK1 hP1 hD1 hPc hDc hFc
  clear hk1 hz1 ht hvm
  have hP : va_P D vwCl [(ob, .inr (3, [.ref oba, .ref ob_1])), (oba, .inr (1, [.ref oba_0, .int obav1, .int obav2])), (oba_0, .inl (k 0, 8, .inl obag0)), (ob_1, .inl (k 2, 1000, .inr (.inl obg1))), (tn_3, .inl (k 0, 10, .inl tng3)), (tn_4, .inl (k 0, 10, .inl tng4)), (tn_5, .inl (k 0, 10, .inl tng5)), (tn_6, .inl (k 0, 10, .inl tng6)), (tn_9, .inl (k 0, 4, .inl tng9)), (tn_10, .inl (k 0, 4, .inl tng10)), (tn, .inr (10, [.int tnv0, .int tnv1, .int tnv2, .ref tn_3, .ref tn_4, .ref tn_5, .ref tn_6, .int tnv7, .int tnv8, .ref tn_9, .ref tn_10, .int tnv11, .ref tn_12, .ref tn_13, .ref tn_14, .ref tn_15, .int tnv16, .ref tn_17, .ref tn_18, .ref tnt]))] H1 := hP
  have hD : va_D A [(ob, .inr (3, [.ref oba, .ref ob_1])), (oba, .inr (1, [.ref oba_0, .int obav1, .int obav2])), (oba_0, .inl (k 0, 8, .inl obag0)), (ob_1, .inl (k 2, 1000, .inr (.inl obg1))), (tn_3, .inl (k 0, 10, .inl tng3)), (tn_4, .inl (k 0, 10, .inl tng4)), (tn_5, .inl (k 0, 10, .inl tng5)), (tn_6, .inl (k 0, 10, .inl tng6)), (tn_9, .inl (k 0, 4, .inl tng9)), (tn_10, .inl (k 0, 4, .inl tng10)), (tn, .inr (10, [.int tnv0, .int tnv1, .int tnv2, .ref tn_3, .ref tn_4, .ref tn_5, .ref tn_6, .int tnv7, .int tnv8, .ref tn_9, .ref tn_10, .int tnv11, .ref tn_12, .ref tn_13, .ref tn_14, .ref tn_15, .int tnv16, .ref tn_17, .ref tn_18, .ref tnt]))] := hD
  generalize H1 = H at hP hS ⊢
  have hw_2 : (0 ≤ r_1.toInt ∧ r_1.toInt ≤ 1023) := hw
  have hw_3 := hw_2
  clear hw
  refine lv_iload hx hb dX3_weighLanes_9 (lv_at hl 4 rfl) ?_
  have hPc := hP.sub (ws' := [(oba, .inr (1, [.ref oba_0, .int obav1, .int obav2])), (oba_0, .inl (k 0, 8, .inl obag0)), (tn, .inr (10, [.int tnv0, .int tnv1, .int tnv2, .ref tn_3, .ref tn_4, .ref tn_5, .ref tn_6, .int tnv7, .int tnv8, .ref tn_9, .ref tn_10, .int tnv11, .ref tn_12, .ref tn_13, .ref tn_14, .ref tn_15, .int tnv16, .ref tn_17, .ref tn_18, .ref tnt])), (tn_3, .inl (k 0, 10, .inl tng3)), (tn_4, .inl (k 0, 10, .inl tng4)), (tn_5, .inl (k 0, 10, .inl tng5)), (tn_9, .inl (k 0, 4, .inl tng9)), (tn_10, .inl (k 0, 4, .inl tng10))]) [1, 2, 10, 4, 5, 6, 8, 9] rfl
  have hDc := hD.sub (ws' := [(oba, .inr (1, [.ref oba_0, .int obav1, .int obav2])), (oba_0, .inl (k 0, 8, .inl obag0)), (tn, .inr (10, [.int tnv0, .int tnv1, .int tnv2, .ref tn_3, .ref tn_4, .ref tn_5, .ref tn_6, .int tnv7, .int tnv8, .ref tn_9, .ref tn_10, .int tnv11, .ref tn_12, .ref tn_13, .ref tn_14, .ref tn_15, .int tnv16, .ref tn_17, .ref tn_18, .ref tnt])), (tn_3, .inl (k 0, 10, .inl tng3)), (tn_4, .inl (k 0, 10, .inl tng4)), (tn_5, .inl (k 0, 10, .inl tng5)), (tn_9, .inl (k 0, 4, .inl tng9)), (tn_10, .inl (k 0, 4, .inl tng10))]) [1, 2, 10, 4, 5, 6, 8, 9] (by decide) rfl
  have hFc := va_free (wc := [(oba, .inr (1, [.ref oba_0, .int obav1, .int obav2])), (oba_0, .inl (k 0, 8, .inl obag0)), (tn, .inr (10, [.int tnv0, .int tnv1, .int tnv2, .ref tn_3, .ref tn_4, .ref tn_5, .ref tn_6, .int tnv7, .int tnv8, .ref tn_9, .ref tn_10, .int tnv11, .ref tn_12, .ref tn_13, .ref tn_14, .ref tn_15, .int tnv16, .ref tn_17, .ref tn_18, .ref tnt])), (tn_3, .inl (k 0, 10, .inl tng3)), (tn_4, .inl (k 0, 10, .inl tng4)), (tn_5, .inl (k 0, 10, .inl tng5)), (tn_9, .inl (k 0, 4, .inl tng9)), (tn_10, .inl (k 0, 4, .inl tng10))]) hD hS hA [1, 2, 10, 4, 5, 6, 8, 9] rfl
  refine va_callv (va_runV (C := RX1) (As := [.ref tn, .int r_1, .int p3]) (rest := []) ⟨hx, hb, hml, hown, hts⟩ (c_X1_fall l D k oba tn r_1 p3 oba_0 obav1 obav2 obag0 tnv0 tnv1 tnv2 tn_3 tn_4 tn_5 tn_6 tnv7 tnv8 tn_9 tn_10 tnv11 tn_12 tn_13 tn_14 tn_15 tnv16 tn_17 tn_18 tnt tng3 tng4 tng5 tng9 tng10 H.size hp_obag0_0 (show 0 ≤ tnv0.toInt ∧ tnv0.toInt ≤ 8 from by omega) (show 0 ≤ tnv2.toInt ∧ tnv2.toInt ≤ 10 from by omega) (show 0 ≤ tnv8.toInt ∧ tnv8.toInt ≤ 4 from by omega) (show 0 ≤ tnv11.toInt ∧ tnv11.toInt ≤ 6 from by omega) (show 0 ≤ tnv16.toInt ∧ tnv16.toInt ≤ 2 from by omega) hp_tng3_0 hp_tng4_0 hp_tng5_0 hp_tng9_0 hp_tng10_0) (cwV 3 hts (gV tw_5_156 tw_3_184 tw_3_185 tw_1_6 tw_3_186) rfl rfl rfl hdV_X1_fall ⟨Nat.le_of_ble_eq_true rfl, Nat.le_of_ble_eq_true rfl⟩) (cz_V hK hPc hDc hN (ci := 1) (q0 := 0) rfl rfl [.ref tn, .int r_1, .int p3]) rfl rfl hl.1 rfl (lv_room (Nat.le_of_ble_eq_true rfl)) dX3_weighLanes_11 ⟨Nat.le_of_ble_eq_true rfl, Nat.le_of_ble_eq_true rfl⟩) hS (fun q _ h => hFc q h) hFc (fun uZ tZ H1 locs ht hvm hw hB hz1 hk1 hS => ?_)
  obtain ⟨o_5, o_6, o_7⟩ := uZ
  obtain ⟨hP1, hK1, hD1⟩ := hB
  rw [ht] at hP1
  obtain ⟨hP, hD⟩ := va_join (wr := [(ob, .inr (3, [.ref oba, .ref ob_1])), (ob_1, .inl (k 2, 1000, .inr (.inl obg1))), (tn_6, .inl (k 0, 10, .inl tng6))]) (w1 := [(oba, .inr (1, [.ref oba_0, .int o_5, .int o_6])), (oba_0, .inl (k 0, 8, .inl o_7)), (tn, .inr (10, [.int tnv0, .int tnv1, .int tnv2, .ref tn_3, .ref tn_4, .ref tn_5, .ref tn_6, .int tnv7, .int tnv8, .ref tn_9, .ref tn_10, .int tnv11, .ref tn_12, .ref tn_13, .ref tn_14, .ref tn_15, .int tnv16, .ref tn_17, .ref tn_18, .ref tnt])), (tn_3, .inl (k 0, 10, .inl tng3)), (tn_4, .inl (k 0, 10, .inl tng4)), (tn_5, .inl (k 0, 10, .inl tng5)), (tn_9, .inl (k 0, 4, .inl tng9)), (tn_10, .inl (k 0, 4, .inl tng10))]) hP hD [1, 2, 10, 4, 5, 6, 8, 9] [0, 3, 7] rfl rfl (by decide) (by decide) hk1 hFc hP1 hD1
  clear hK1 hP1 hD1 hPc hDc hFc
  clear hk1 hz1 ht hvm
  have hP : va_P D vwCl [(ob, .inr (3, [.ref oba, .ref ob_1])), (ob_1, .inl (k 2, 1000, .inr (.inl obg1))), (tn_6, .inl (k 0, 10, .inl tng6)), (oba, .inr (1, [.ref oba_0, .int o_5, .int o_6])), (oba_0, .inl (k 0, 8, .inl o_7)), (tn, .inr (10, [.int tnv0, .int tnv1, .int tnv2, .ref tn_3, .ref tn_4, .ref tn_5, .ref tn_6, .int tnv7, .int tnv8, .ref tn_9, .ref tn_10, .int tnv11, .ref tn_12, .ref tn_13, .ref tn_14, .ref tn_15, .int tnv16, .ref tn_17, .ref tn_18, .ref tnt])), (tn_3, .inl (k 0, 10, .inl tng3)), (tn_4, .inl (k 0, 10, .inl tng4)), (tn_5, .inl (k 0, 10, .inl tng5)), (tn_9, .inl (k 0, 4, .inl tng9)), (tn_10, .inl (k 0, 4, .inl tng10))] H1 := hP
  have hD : va_D A [(ob, .inr (3, [.ref oba, .ref ob_1])), (ob_1, .inl (k 2, 1000, .inr (.inl obg1))), (tn_6, .inl (k 0, 10, .inl tng6)), (oba, .inr (1, [.ref oba_0, .int o_5, .int o_6])), (oba_0, .inl (k 0, 8, .inl o_7)), (tn, .inr (10, [.int tnv0, .int tnv1, .int tnv2, .ref tn_3, .ref tn_4, .ref tn_5, .ref tn_6, .int tnv7, .int tnv8, .ref tn_9, .ref tn_10, .int tnv11, .ref tn_12, .ref tn_13, .ref tn_14, .ref tn_15, .int tnv16, .ref tn_17, .ref tn_18, .ref tnt])), (tn_3, .inl (k 0, 10, .inl tng3)), (tn_4, .inl (k 0, 10, .inl tng4)), (tn_5, .inl (k 0, 10, .inl tng5)), (tn_9, .inl (k 0, 4, .inl tng9)), (tn_10, .inl (k 0, 4, .inl tng10))] := hD
  generalize H1 = H at hP hS ⊢
  have hw_8 : (PR 8 1 0 0 1000000 o_7) := hw
  have hw_9 := hw_8
  clear hw
  refine lv_aload_n hx hb dX3_weighLanes_14 rfl (lv_at hl 0 rfl) ?_
  refine va_get (D := D) (ci := 3) (v := .ref oba) (C := RX3) (T := TX3) (N := 2) hx hb hts iT_X3 hown hK hP 0 rfl rfl 0 (by decide) (hts _ tw_2_163) (fun _ h9 => h9) rfl dX3_weighLanes_15 ?_
  refine va_get (D := D) (ci := 1) (v := .ref oba_0) (C := RX1) (T := TX1) (N := 3) hx hb hts iT_X1 hown hK hP 3 rfl rfl 0 (by decide) (hts _ tw_2_21) (fun _ h9 => h9) rfl dX3_weighLanes_18 ?_
  refine lv_iload_n hx hb dX3_weighLanes_21 rfl (lv_at hl 2 rfl) ?_
  refine va_iald hx hb hK hP 4 0 rfl rfl (z_in (by omega) (by omega)) dX3_weighLanes_22 ?_
  refine lv_topi (fun x_10 ex_10 => ?_)
  have zx_10r0 : 0 ≤ x_10.toInt ∧ x_10.toInt ≤ 1000000 := by rw [ex_10]; exact PR.ld hw_9 (by omega) (by omega) (by omega)
  refine lv_istore (lv' := [(8, .int x_10), (0, .ref ob), (1, .ref tn), (2, .int p1), (3, .int p2), (4, .int p3), (5, .long p4), (7, .int 7)]) hx hb dX3_weighLanes_23 hl (by decide) rfl (fun ls hl => ?_)
  refine lv_iload hx hb dX3_weighLanes_25 (lv_at hl 0 rfl) ?_
  refine lv_sipush (v := 1000) hx hb dX3_weighLanes_27 (by decide) ?_
  refine lv_icmp_lt (tgt := 34) hx hb dX3_weighLanes_30 (by decide) (fun h_11 => ?_) (fun h_11 => ?_)
  · skip
    have zh_11 : x_10.toInt < 1000 := z_lt h_11
    refine lv_aload_n hx hb dX3_weighLanes_34 rfl (lv_at hl 1 rfl) ?_
    refine va_get (D := D) (ci := 3) (v := .ref oba) (C := RX3) (T := TX3) (N := 2) hx hb hts iT_X3 hown hK hP 0 rfl rfl 0 (by decide) (hts _ tw_2_163) (fun _ h9 => h9) rfl dX3_weighLanes_35 ?_
    refine lv_aload_n hx hb dX3_weighLanes_38 rfl (lv_at hl 2 rfl) ?_
    refine lv_iload_n hx hb dX3_weighLanes_39 rfl (lv_at hl 3 rfl) ?_
    have hPc := hP.sub (ws' := [(oba, .inr (1, [.ref oba_0, .int o_5, .int o_6])), (oba_0, .inl (k 0, 8, .inl o_7)), (tn, .inr (10, [.int tnv0, .int tnv1, .int tnv2, .ref tn_3, .ref tn_4, .ref tn_5, .ref tn_6, .int tnv7, .int tnv8, .ref tn_9, .ref tn_10, .int tnv11, .ref tn_12, .ref tn_13, .ref tn_14, .ref tn_15, .int tnv16, .ref tn_17, .ref tn_18, .ref tnt])), (tn_3, .inl (k 0, 10, .inl tng3)), (tn_4, .inl (k 0, 10, .inl tng4)), (tn_5, .inl (k 0, 10, .inl tng5)), (tn_9, .inl (k 0, 4, .inl tng9)), (tn_10, .inl (k 0, 4, .inl tng10))]) [3, 4, 5, 6, 7, 8, 9, 10] rfl
    have hDc := hD.sub (ws' := [(oba, .inr (1, [.ref oba_0, .int o_5, .int o_6])), (oba_0, .inl (k 0, 8, .inl o_7)), (tn, .inr (10, [.int tnv0, .int tnv1, .int tnv2, .ref tn_3, .ref tn_4, .ref tn_5, .ref tn_6, .int tnv7, .int tnv8, .ref tn_9, .ref tn_10, .int tnv11, .ref tn_12, .ref tn_13, .ref tn_14, .ref tn_15, .int tnv16, .ref tn_17, .ref tn_18, .ref tnt])), (tn_3, .inl (k 0, 10, .inl tng3)), (tn_4, .inl (k 0, 10, .inl tng4)), (tn_5, .inl (k 0, 10, .inl tng5)), (tn_9, .inl (k 0, 4, .inl tng9)), (tn_10, .inl (k 0, 4, .inl tng10))]) [3, 4, 5, 6, 7, 8, 9, 10] (by decide) rfl
    have hFc := va_free (wc := [(oba, .inr (1, [.ref oba_0, .int o_5, .int o_6])), (oba_0, .inl (k 0, 8, .inl o_7)), (tn, .inr (10, [.int tnv0, .int tnv1, .int tnv2, .ref tn_3, .ref tn_4, .ref tn_5, .ref tn_6, .int tnv7, .int tnv8, .ref tn_9, .ref tn_10, .int tnv11, .ref tn_12, .ref tn_13, .ref tn_14, .ref tn_15, .int tnv16, .ref tn_17, .ref tn_18, .ref tnt])), (tn_3, .inl (k 0, 10, .inl tng3)), (tn_4, .inl (k 0, 10, .inl tng4)), (tn_5, .inl (k 0, 10, .inl tng5)), (tn_9, .inl (k 0, 4, .inl tng9)), (tn_10, .inl (k 0, 4, .inl tng10))]) hD hS hA [3, 4, 5, 6, 7, 8, 9, 10] rfl
    refine va_calli (va_runV (C := RX1) (As := [.ref tn, .int p1]) (rest := []) ⟨hx, hb, hml, hown, hts⟩ (c_X1_wayTo l D k oba tn p1 oba_0 o_5 o_6 o_7 tnv0 tnv1 tnv2 tn_3 tn_4 tn_5 tn_6 tnv7 tnv8 tn_9 tn_10 tnv11 tn_12 tn_13 tn_14 tn_15 tnv16 tn_17 tn_18 tnt tng3 tng4 tng5 tng9 tng10 H.size (show 0 ≤ p1.toInt ∧ p1.toInt ≤ 7 from by omega) hw_9 (show 0 ≤ tnv0.toInt ∧ tnv0.toInt ≤ 8 from by omega) (show 0 ≤ tnv2.toInt ∧ tnv2.toInt ≤ 10 from by omega) (show 0 ≤ tnv8.toInt ∧ tnv8.toInt ≤ 4 from by omega) (show 0 ≤ tnv11.toInt ∧ tnv11.toInt ≤ 6 from by omega) (show 0 ≤ tnv16.toInt ∧ tnv16.toInt ≤ 2 from by omega) hp_tng3_0 hp_tng4_0 hp_tng5_0 hp_tng9_0 hp_tng10_0) (cwV 2 hts (gV tw_5_157 tw_4_96 tw_4_97 tw_1_6 tw_4_98) rfl rfl rfl hdV_X1_wayTo ⟨Nat.le_of_ble_eq_true rfl, Nat.le_of_ble_eq_true rfl⟩) (cz_V hK hPc hDc hN (ci := 1) (q0 := 0) rfl rfl [.ref tn, .int p1]) rfl rfl hl.1 rfl (lv_room (Nat.le_of_ble_eq_true rfl)) dX3_weighLanes_40 ⟨Nat.le_of_ble_eq_true rfl, Nat.le_of_ble_eq_true rfl⟩) hS (fun q _ h => hFc q h) hFc (fun r_12 uZ tZ H1 locs ht hvm hw hB hz1 hk1 hS => ?_)
    obtain ⟨hP1, hK1, hD1⟩ := hB
    rw [ht] at hP1
    obtain ⟨hP, hD⟩ := va_join (wr := [(ob, .inr (3, [.ref oba, .ref ob_1])), (ob_1, .inl (k 2, 1000, .inr (.inl obg1))), (tn_6, .inl (k 0, 10, .inl tng6))]) (w1 := [(oba, .inr (1, [.ref oba_0, .int o_5, .int o_6])), (oba_0, .inl (k 0, 8, .inl o_7)), (tn, .inr (10, [.int tnv0, .int tnv1, .int tnv2, .ref tn_3, .ref tn_4, .ref tn_5, .ref tn_6, .int tnv7, .int tnv8, .ref tn_9, .ref tn_10, .int tnv11, .ref tn_12, .ref tn_13, .ref tn_14, .ref tn_15, .int tnv16, .ref tn_17, .ref tn_18, .ref tnt])), (tn_3, .inl (k 0, 10, .inl tng3)), (tn_4, .inl (k 0, 10, .inl tng4)), (tn_5, .inl (k 0, 10, .inl tng5)), (tn_9, .inl (k 0, 4, .inl tng9)), (tn_10, .inl (k 0, 4, .inl tng10))]) hP hD [3, 4, 5, 6, 7, 8, 9, 10] [0, 1, 2] rfl rfl (by decide) (by decide) hk1 hFc hP1 hD1
    clear hK1 hP1 hD1 hPc hDc hFc
    clear hk1 hz1 ht hvm
    have hP : va_P D vwCl [(ob, .inr (3, [.ref oba, .ref ob_1])), (ob_1, .inl (k 2, 1000, .inr (.inl obg1))), (tn_6, .inl (k 0, 10, .inl tng6)), (oba, .inr (1, [.ref oba_0, .int o_5, .int o_6])), (oba_0, .inl (k 0, 8, .inl o_7)), (tn, .inr (10, [.int tnv0, .int tnv1, .int tnv2, .ref tn_3, .ref tn_4, .ref tn_5, .ref tn_6, .int tnv7, .int tnv8, .ref tn_9, .ref tn_10, .int tnv11, .ref tn_12, .ref tn_13, .ref tn_14, .ref tn_15, .int tnv16, .ref tn_17, .ref tn_18, .ref tnt])), (tn_3, .inl (k 0, 10, .inl tng3)), (tn_4, .inl (k 0, 10, .inl tng4)), (tn_5, .inl (k 0, 10, .inl tng5)), (tn_9, .inl (k 0, 4, .inl tng9)), (tn_10, .inl (k 0, 4, .inl tng10))] H1 := hP
    have hD : va_D A [(ob, .inr (3, [.ref oba, .ref ob_1])), (ob_1, .inl (k 2, 1000, .inr (.inl obg1))), (tn_6, .inl (k 0, 10, .inl tng6)), (oba, .inr (1, [.ref oba_0, .int o_5, .int o_6])), (oba_0, .inl (k 0, 8, .inl o_7)), (tn, .inr (10, [.int tnv0, .int tnv1, .int tnv2, .ref tn_3, .ref tn_4, .ref tn_5, .ref tn_6, .int tnv7, .int tnv8, .ref tn_9, .ref tn_10, .int tnv11, .ref tn_12, .ref tn_13, .ref tn_14, .ref tn_15, .int tnv16, .ref tn_17, .ref tn_18, .ref tnt])), (tn_3, .inl (k 0, 10, .inl tng3)), (tn_4, .inl (k 0, 10, .inl tng4)), (tn_5, .inl (k 0, 10, .inl tng5)), (tn_9, .inl (k 0, 4, .inl tng9)), (tn_10, .inl (k 0, 4, .inl tng10))] := hD
    generalize H1 = H at hP hS ⊢
    have hw_13 : (0 ≤ r_12.toInt ∧ r_12.toInt ≤ 1023) := hw
    have hw_14 := hw_13
    clear hw
    refine lv_iload_n hx hb dX3_weighLanes_43 rfl (lv_at hl 4 rfl) ?_
    refine lv_iconst (v := (-1)) hx hb dX3_weighLanes_44 (by decide) ?_
    refine lv_ixor hx hb dX3_weighLanes_45 ?_
    refine lv_topi (fun x_15 ex_15 => ?_)
    have zrp2 := z_rng p2
    refine lv_iand hx hb dX3_weighLanes_46 ?_
    refine lv_topi (fun x_16 ex_16 => ?_)
    have zrx_15 := z_rng x_15
    have zx_16 : 0 ≤ x_16.toInt ∧ x_16.toInt ≤ r_12.toInt := by rw [ex_16]; exact z_andL (by omega)
    refine lv_istore (lv' := [(9, .int x_16), (8, .int x_10), (0, .ref ob), (1, .ref tn), (2, .int p1), (3, .int p2), (4, .int p3), (5, .long p4), (7, .int 7)]) hx hb dX3_weighLanes_47 hl (by decide) rfl (fun ls hl => ?_)
    refine lv_iload hx hb dX3_weighLanes_49 (lv_at hl 0 rfl) ?_
    refine lv_iload hx hb dX3_weighLanes_51 (lv_at hl 0 rfl) ?_
    refine lv_ineg hx hb dX3_weighLanes_53 ?_
    refine lv_topi (fun x_17 ex_17 => ?_)
    refine lv_iand hx hb dX3_weighLanes_54 ?_
    refine lv_topi (fun x_18 ex_18 => ?_)
    have zrx_17 := z_rng x_17
    have zx_18 : 0 ≤ x_18.toInt ∧ x_18.toInt ≤ x_16.toInt := by rw [ex_18]; exact z_andL (by omega)
    refine lv_iconst (v := 1) hx hb dX3_weighLanes_55 (by decide) ?_
    refine lv_isub hx hb dX3_weighLanes_56 ?_
    refine lv_topi (fun x_19 ex_19 => ?_)
    have zx_19 : x_19.toInt = x_18.toInt - 1 := by rw [ex_19]; exact z_sub rfl rfl (by omega) (by omega)
    have hPc := hP.sub (ws' := []) [] rfl
    have hDc := hD.sub (ws' := []) [] (by decide) rfl
    have hFc := va_free (wc := []) hD hS hA [] rfl
    refine va_calli (va_runS (As := [.int x_19]) (rest := []) ⟨hx, hb, hml, hown, hts⟩ (c_J6_bitCount_0f7a4 l D k x_19 H.size) (va_cwS 1 hts (gS tw_5_158 tw_4_101 tw_1_20 tw_4_102) rfl rfl rfl hdS_J6_bitCount_0f7a4 ⟨Nat.le_of_ble_eq_true rfl, Nat.le_of_ble_eq_true rfl⟩) (cz_S hK hPc hDc hN [.int x_19]) rfl rfl hl.1 rfl (lv_room (Nat.le_of_ble_eq_true rfl)) dX3_weighLanes_57 ⟨Nat.le_of_ble_eq_true rfl, Nat.le_of_ble_eq_true rfl⟩) hS (fun q _ h => hFc q h) hFc (fun r_20 uZ tZ H1 locs ht hvm hw hB hz1 hk1 hS => ?_)
    obtain ⟨hP1, hK1, hD1⟩ := hB
    rw [ht] at hP1
    obtain ⟨hP, hD⟩ := va_join (wr := [(ob, .inr (3, [.ref oba, .ref ob_1])), (ob_1, .inl (k 2, 1000, .inr (.inl obg1))), (tn_6, .inl (k 0, 10, .inl tng6)), (oba, .inr (1, [.ref oba_0, .int o_5, .int o_6])), (oba_0, .inl (k 0, 8, .inl o_7)), (tn, .inr (10, [.int tnv0, .int tnv1, .int tnv2, .ref tn_3, .ref tn_4, .ref tn_5, .ref tn_6, .int tnv7, .int tnv8, .ref tn_9, .ref tn_10, .int tnv11, .ref tn_12, .ref tn_13, .ref tn_14, .ref tn_15, .int tnv16, .ref tn_17, .ref tn_18, .ref tnt])), (tn_3, .inl (k 0, 10, .inl tng3)), (tn_4, .inl (k 0, 10, .inl tng4)), (tn_5, .inl (k 0, 10, .inl tng5)), (tn_9, .inl (k 0, 4, .inl tng9)), (tn_10, .inl (k 0, 4, .inl tng10))]) (w1 := []) hP hD [] [0, 1, 2, 3, 4, 5, 6, 7, 8, 9, 10] rfl rfl (by decide) (by decide) hk1 hFc hP1 hD1
    clear hK1 hP1 hD1 hPc hDc hFc
    clear hk1 hz1 ht hvm
    have hP : va_P D vwCl [(ob, .inr (3, [.ref oba, .ref ob_1])), (ob_1, .inl (k 2, 1000, .inr (.inl obg1))), (tn_6, .inl (k 0, 10, .inl tng6)), (oba, .inr (1, [.ref oba_0, .int o_5, .int o_6])), (oba_0, .inl (k 0, 8, .inl o_7)), (tn, .inr (10, [.int tnv0, .int tnv1, .int tnv2, .ref tn_3, .ref tn_4, .ref tn_5, .ref tn_6, .int tnv7, .int tnv8, .ref tn_9, .ref tn_10, .int tnv11, .ref tn_12, .ref tn_13, .ref tn_14, .ref tn_15, .int tnv16, .ref tn_17, .ref tn_18, .ref tnt])), (tn_3, .inl (k 0, 10, .inl tng3)), (tn_4, .inl (k 0, 10, .inl tng4)), (tn_5, .inl (k 0, 10, .inl tng5)), (tn_9, .inl (k 0, 4, .inl tng9)), (tn_10, .inl (k 0, 4, .inl tng10))] H1 := hP
    have hD : va_D A [(ob, .inr (3, [.ref oba, .ref ob_1])), (ob_1, .inl (k 2, 1000, .inr (.inl obg1))), (tn_6, .inl (k 0, 10, .inl tng6)), (oba, .inr (1, [.ref oba_0, .int o_5, .int o_6])), (oba_0, .inl (k 0, 8, .inl o_7)), (tn, .inr (10, [.int tnv0, .int tnv1, .int tnv2, .ref tn_3, .ref tn_4, .ref tn_5, .ref tn_6, .int tnv7, .int tnv8, .ref tn_9, .ref tn_10, .int tnv11, .ref tn_12, .ref tn_13, .ref tn_14, .ref tn_15, .int tnv16, .ref tn_17, .ref tn_18, .ref tnt])), (tn_3, .inl (k 0, 10, .inl tng3)), (tn_4, .inl (k 0, 10, .inl tng4)), (tn_5, .inl (k 0, 10, .inl tng5)), (tn_9, .inl (k 0, 4, .inl tng9)), (tn_10, .inl (k 0, 4, .inl tng10))] := hD
    generalize H1 = H at hP hS ⊢
    have hw_21 : (0 ≤ r_20.toInt ∧ r_20.toInt ≤ 63) := hw
    have hw_22 := hw_21
    clear hw
    refine lv_istore (lv' := [(10, .int r_20), (9, .int x_16), (8, .int x_10), (0, .ref ob), (1, .ref tn), (2, .int p1), (3, .int p2), (4, .int p3), (5, .long p4), (7, .int 7)]) hx hb dX3_weighLanes_60 hl (by decide) rfl (fun ls hl => ?_)
    refine lv_iload hx hb dX3_weighLanes_62 (lv_at hl 1 rfl) ?_
    refine lv_if_eq (tgt := 81) hx hb dX3_weighLanes_64 (by decide) (fun h_23 => ?_) (fun h_23 => ?_)
    · skip
      have zh_23 : x_16.toInt = 0 := z_eq h_23
      refine lv_aload_n hx hb dX3_weighLanes_81 rfl (lv_at hl 3 rfl) ?_
      refine va_get (D := D) (ci := 3) (v := .ref ob_1) (C := RX3) (T := TX3) (N := 2) hx hb hts iT_X3 hown hK hP 0 rfl rfl 1 (by decide) (hts _ tw_2_164) (fun _ h9 => h9) rfl dX3_weighLanes_82 ?_
      refine lv_iload hx hb dX3_weighLanes_85 (lv_at hl 2 rfl) ?_
      refine lv_dup2_11 hx hb dX3_weighLanes_87 rfl rfl ?_
      refine va_lald hx hb hK hP 1 2 rfl rfl (z_in (by omega) (by omega)) dX3_weighLanes_88 ?_
      refine lv_topl (fun x_24 ex_24 => ?_)
      refine lv_lload hx hb dX3_weighLanes_89 (lv_at hl 8 rfl) ?_
      refine lv_ladd hx hb dX3_weighLanes_91 ?_
      refine lv_topl (fun x_25 ex_25 => ?_)
      refine va_last hx hb hK hP hD hS 1 2 rfl rfl (z_in (by omega) (by omega)) dX3_weighLanes_92 (fun H locs hP hD hS => ?_)
      obtain ⟨g_26, eg_26⟩ : ∃ z : Nat → Int64, vp_updL obg1 x_10.toNatClampNeg x_25 = z := ⟨_, rfl⟩
      have hP : va_P D vwCl [(ob, .inr (3, [.ref oba, .ref ob_1])), (ob_1, .inl (k 2, 1000, .inr (.inl (vp_updL obg1 x_10.toNatClampNeg x_25)))), (tn_6, .inl (k 0, 10, .inl tng6)), (oba, .inr (1, [.ref oba_0, .int o_5, .int o_6])), (oba_0, .inl (k 0, 8, .inl o_7)), (tn, .inr (10, [.int tnv0, .int tnv1, .int tnv2, .ref tn_3, .ref tn_4, .ref tn_5, .ref tn_6, .int tnv7, .int tnv8, .ref tn_9, .ref tn_10, .int tnv11, .ref tn_12, .ref tn_13, .ref tn_14, .ref tn_15, .int tnv16, .ref tn_17, .ref tn_18, .ref tnt])), (tn_3, .inl (k 0, 10, .inl tng3)), (tn_4, .inl (k 0, 10, .inl tng4)), (tn_5, .inl (k 0, 10, .inl tng5)), (tn_9, .inl (k 0, 4, .inl tng9)), (tn_10, .inl (k 0, 4, .inl tng10))] H := hP
      have hD : va_D A [(ob, .inr (3, [.ref oba, .ref ob_1])), (ob_1, .inl (k 2, 1000, .inr (.inl (vp_updL obg1 x_10.toNatClampNeg x_25)))), (tn_6, .inl (k 0, 10, .inl tng6)), (oba, .inr (1, [.ref oba_0, .int o_5, .int o_6])), (oba_0, .inl (k 0, 8, .inl o_7)), (tn, .inr (10, [.int tnv0, .int tnv1, .int tnv2, .ref tn_3, .ref tn_4, .ref tn_5, .ref tn_6, .int tnv7, .int tnv8, .ref tn_9, .ref tn_10, .int tnv11, .ref tn_12, .ref tn_13, .ref tn_14, .ref tn_15, .int tnv16, .ref tn_17, .ref tn_18, .ref tnt])), (tn_3, .inl (k 0, 10, .inl tng3)), (tn_4, .inl (k 0, 10, .inl tng4)), (tn_5, .inl (k 0, 10, .inl tng5)), (tn_9, .inl (k 0, 4, .inl tng9)), (tn_10, .inl (k 0, 4, .inl tng10))] := hD
      rw [eg_26] at hP hD
      have hP9 := hP.sub (ws' := [(ob, .inr (3, [.ref oba, .ref ob_1])), (oba, .inr (1, [.ref oba_0, .int o_5, .int o_6])), (oba_0, .inl (k 0, 8, .inl o_7)), (ob_1, .inl (k 2, 1000, .inr (.inl g_26))), (tn, .inr (10, [.int tnv0, .int tnv1, .int tnv2, .ref tn_3, .ref tn_4, .ref tn_5, .ref tn_6, .int tnv7, .int tnv8, .ref tn_9, .ref tn_10, .int tnv11, .ref tn_12, .ref tn_13, .ref tn_14, .ref tn_15, .int tnv16, .ref tn_17, .ref tn_18, .ref tnt])), (tn_3, .inl (k 0, 10, .inl tng3)), (tn_4, .inl (k 0, 10, .inl tng4)), (tn_5, .inl (k 0, 10, .inl tng5)), (tn_6, .inl (k 0, 10, .inl tng6)), (tn_9, .inl (k 0, 4, .inl tng9)), (tn_10, .inl (k 0, 4, .inl tng10))]) [0, 3, 4, 1, 5, 6, 7, 8, 2, 9, 10] rfl
      have hD9 := hD.sub (ws' := [(ob, .inr (3, [.ref oba, .ref ob_1])), (oba, .inr (1, [.ref oba_0, .int o_5, .int o_6])), (oba_0, .inl (k 0, 8, .inl o_7)), (ob_1, .inl (k 2, 1000, .inr (.inl g_26))), (tn, .inr (10, [.int tnv0, .int tnv1, .int tnv2, .ref tn_3, .ref tn_4, .ref tn_5, .ref tn_6, .int tnv7, .int tnv8, .ref tn_9, .ref tn_10, .int tnv11, .ref tn_12, .ref tn_13, .ref tn_14, .ref tn_15, .int tnv16, .ref tn_17, .ref tn_18, .ref tnt])), (tn_3, .inl (k 0, 10, .inl tng3)), (tn_4, .inl (k 0, 10, .inl tng4)), (tn_5, .inl (k 0, 10, .inl tng5)), (tn_6, .inl (k 0, 10, .inl tng6)), (tn_9, .inl (k 0, 4, .inl tng9)), (tn_10, .inl (k 0, 4, .inl tng10))]) [0, 3, 4, 1, 5, 6, 7, 8, 2, 9, 10] (by decide) rfl
      exact W.vret hx hb hr (fun tZ ht hW => ⟨⟨(o_5, o_6, o_7, g_26), rfl, hw_9, by rw [ht]; exact hP9, va_K.moved hW.alike hK, hD9⟩, hS.F ht⟩) hS.2.2 dX3_weighLanes_93
    · skip
      have zh_23 : ¬ x_16.toInt = 0 := z_ne h_23
      refine lv_iload hx hb dX3_weighLanes_67 (lv_at hl 0 rfl) ?_
      refine lv_bipush (v := 10) hx hb dX3_weighLanes_69 (by decide) ?_
      refine lv_icmp_ge (tgt := 81) hx hb dX3_weighLanes_71 (by decide) (fun h_27 => ?_) (fun h_27 => ?_)
      · skip
        have zh_27 : 10 ≤ r_20.toInt := z_le h_27
        refine lv_aload_n hx hb dX3_weighLanes_81 rfl (lv_at hl 3 rfl) ?_
        refine va_get (D := D) (ci := 3) (v := .ref ob_1) (C := RX3) (T := TX3) (N := 2) hx hb hts iT_X3 hown hK hP 0 rfl rfl 1 (by decide) (hts _ tw_2_164) (fun _ h9 => h9) rfl dX3_weighLanes_82 ?_
        refine lv_iload hx hb dX3_weighLanes_85 (lv_at hl 2 rfl) ?_
        refine lv_dup2_11 hx hb dX3_weighLanes_87 rfl rfl ?_
        refine va_lald hx hb hK hP 1 2 rfl rfl (z_in (by omega) (by omega)) dX3_weighLanes_88 ?_
        refine lv_topl (fun x_28 ex_28 => ?_)
        refine lv_lload hx hb dX3_weighLanes_89 (lv_at hl 8 rfl) ?_
        refine lv_ladd hx hb dX3_weighLanes_91 ?_
        refine lv_topl (fun x_29 ex_29 => ?_)
        refine va_last hx hb hK hP hD hS 1 2 rfl rfl (z_in (by omega) (by omega)) dX3_weighLanes_92 (fun H locs hP hD hS => ?_)
        obtain ⟨g_30, eg_30⟩ : ∃ z : Nat → Int64, vp_updL obg1 x_10.toNatClampNeg x_29 = z := ⟨_, rfl⟩
        have hP : va_P D vwCl [(ob, .inr (3, [.ref oba, .ref ob_1])), (ob_1, .inl (k 2, 1000, .inr (.inl (vp_updL obg1 x_10.toNatClampNeg x_29)))), (tn_6, .inl (k 0, 10, .inl tng6)), (oba, .inr (1, [.ref oba_0, .int o_5, .int o_6])), (oba_0, .inl (k 0, 8, .inl o_7)), (tn, .inr (10, [.int tnv0, .int tnv1, .int tnv2, .ref tn_3, .ref tn_4, .ref tn_5, .ref tn_6, .int tnv7, .int tnv8, .ref tn_9, .ref tn_10, .int tnv11, .ref tn_12, .ref tn_13, .ref tn_14, .ref tn_15, .int tnv16, .ref tn_17, .ref tn_18, .ref tnt])), (tn_3, .inl (k 0, 10, .inl tng3)), (tn_4, .inl (k 0, 10, .inl tng4)), (tn_5, .inl (k 0, 10, .inl tng5)), (tn_9, .inl (k 0, 4, .inl tng9)), (tn_10, .inl (k 0, 4, .inl tng10))] H := hP
        have hD : va_D A [(ob, .inr (3, [.ref oba, .ref ob_1])), (ob_1, .inl (k 2, 1000, .inr (.inl (vp_updL obg1 x_10.toNatClampNeg x_29)))), (tn_6, .inl (k 0, 10, .inl tng6)), (oba, .inr (1, [.ref oba_0, .int o_5, .int o_6])), (oba_0, .inl (k 0, 8, .inl o_7)), (tn, .inr (10, [.int tnv0, .int tnv1, .int tnv2, .ref tn_3, .ref tn_4, .ref tn_5, .ref tn_6, .int tnv7, .int tnv8, .ref tn_9, .ref tn_10, .int tnv11, .ref tn_12, .ref tn_13, .ref tn_14, .ref tn_15, .int tnv16, .ref tn_17, .ref tn_18, .ref tnt])), (tn_3, .inl (k 0, 10, .inl tng3)), (tn_4, .inl (k 0, 10, .inl tng4)), (tn_5, .inl (k 0, 10, .inl tng5)), (tn_9, .inl (k 0, 4, .inl tng9)), (tn_10, .inl (k 0, 4, .inl tng10))] := hD
        rw [eg_30] at hP hD
        have hP9 := hP.sub (ws' := [(ob, .inr (3, [.ref oba, .ref ob_1])), (oba, .inr (1, [.ref oba_0, .int o_5, .int o_6])), (oba_0, .inl (k 0, 8, .inl o_7)), (ob_1, .inl (k 2, 1000, .inr (.inl g_30))), (tn, .inr (10, [.int tnv0, .int tnv1, .int tnv2, .ref tn_3, .ref tn_4, .ref tn_5, .ref tn_6, .int tnv7, .int tnv8, .ref tn_9, .ref tn_10, .int tnv11, .ref tn_12, .ref tn_13, .ref tn_14, .ref tn_15, .int tnv16, .ref tn_17, .ref tn_18, .ref tnt])), (tn_3, .inl (k 0, 10, .inl tng3)), (tn_4, .inl (k 0, 10, .inl tng4)), (tn_5, .inl (k 0, 10, .inl tng5)), (tn_6, .inl (k 0, 10, .inl tng6)), (tn_9, .inl (k 0, 4, .inl tng9)), (tn_10, .inl (k 0, 4, .inl tng10))]) [0, 3, 4, 1, 5, 6, 7, 8, 2, 9, 10] rfl
        have hD9 := hD.sub (ws' := [(ob, .inr (3, [.ref oba, .ref ob_1])), (oba, .inr (1, [.ref oba_0, .int o_5, .int o_6])), (oba_0, .inl (k 0, 8, .inl o_7)), (ob_1, .inl (k 2, 1000, .inr (.inl g_30))), (tn, .inr (10, [.int tnv0, .int tnv1, .int tnv2, .ref tn_3, .ref tn_4, .ref tn_5, .ref tn_6, .int tnv7, .int tnv8, .ref tn_9, .ref tn_10, .int tnv11, .ref tn_12, .ref tn_13, .ref tn_14, .ref tn_15, .int tnv16, .ref tn_17, .ref tn_18, .ref tnt])), (tn_3, .inl (k 0, 10, .inl tng3)), (tn_4, .inl (k 0, 10, .inl tng4)), (tn_5, .inl (k 0, 10, .inl tng5)), (tn_6, .inl (k 0, 10, .inl tng6)), (tn_9, .inl (k 0, 4, .inl tng9)), (tn_10, .inl (k 0, 4, .inl tng10))]) [0, 3, 4, 1, 5, 6, 7, 8, 2, 9, 10] (by decide) rfl
        exact W.vret hx hb hr (fun tZ ht hW => ⟨⟨(o_5, o_6, o_7, g_30), rfl, hw_9, by rw [ht]; exact hP9, va_K.moved hW.alike hK, hD9⟩, hS.F ht⟩) hS.2.2 dX3_weighLanes_93
      · skip
        have zh_27 : r_20.toInt < 10 := z_nle h_27
        refine lv_iload hx hb dX3_weighLanes_74 (lv_at hl 9 rfl) ?_
        refine lv_bipush (v := 10) hx hb dX3_weighLanes_76 (by decide) ?_
        refine lv_icmp_lt (tgt := 94) hx hb dX3_weighLanes_78 (by decide) (fun _ => ?_) (fun c9 => absurd c9 (by decide))
        refine lv_iconst (v := 1) hx hb dX3_weighLanes_94 (by decide) ?_
        refine lv_iload hx hb dX3_weighLanes_95 (lv_at hl 0 rfl) ?_
        refine lv_ishl hx hb dX3_weighLanes_97 ?_
        refine lv_topi (fun x_31 ex_31 => ?_)
        have zx_31 : 1 ≤ x_31.toInt ∧ x_31.toInt ≤ 512 := by rw [ex_31]; exact z_shl1 9 512 rfl (by decide) (by omega) (by omega)
        refine lv_istore (lv' := [(11, .int x_31), (10, .int r_20), (9, .int x_16), (8, .int x_10), (0, .ref ob), (1, .ref tn), (2, .int p1), (3, .int p2), (4, .int p3), (5, .long p4), (7, .int 7)]) hx hb dX3_weighLanes_98 hl (by decide) rfl (fun ls hl => ?_)
        refine lv_lload hx hb dX3_weighLanes_100 (lv_at hl 9 rfl) ?_
        refine lv_ldc2 (v := 10) hx hb hown (hts _ tw_5_159) dX3_weighLanes_102 ?_
        refine lv_ldiv hx hb dX3_weighLanes_105 (by decide) ?_
        refine lv_topl (fun x_32 ex_32 => ?_)
        refine lv_lstore (lv' := [(12, .long x_32), (11, .int x_31), (10, .int r_20), (9, .int x_16), (8, .int x_10), (0, .ref ob), (1, .ref tn), (2, .int p1), (3, .int p2), (4, .int p3), (5, .long p4), (7, .int 7)]) hx hb dX3_weighLanes_106 hl (by decide) rfl (fun ls hl => ?_)
        refine lv_aload_n hx hb dX3_weighLanes_108 rfl (lv_at hl 5 rfl) ?_
        refine lv_aload_n hx hb dX3_weighLanes_109 rfl (lv_at hl 6 rfl) ?_
        refine lv_iload_n hx hb dX3_weighLanes_110 rfl (lv_at hl 7 rfl) ?_
        refine lv_iload_n hx hb dX3_weighLanes_111 rfl (lv_at hl 8 rfl) ?_
        refine lv_iload hx hb dX3_weighLanes_112 (lv_at hl 1 rfl) ?_
        refine lv_ior hx hb dX3_weighLanes_114 ?_
        refine lv_topi (fun x_33 ex_33 => ?_)
        refine lv_iload hx hb dX3_weighLanes_115 (lv_at hl 9 rfl) ?_
        refine lv_lload hx hb dX3_weighLanes_117 (lv_at hl 0 rfl) ?_
        refine lv_bipush (v := 10) hx hb dX3_weighLanes_119 (by decide) ?_
        refine lv_aload_n hx hb dX3_weighLanes_121 rfl (lv_at hl 6 rfl) ?_
        refine va_get (D := D) (ci := 10) (v := .ref tn_6) (C := RX10) (T := TX10) (N := 20) hx hb hts iT_X10 hown hK hP 5 rfl rfl 6 (by decide) (hts _ tw_1_98) (fun _ h9 => h9) rfl dX3_weighLanes_122 ?_
        refine lv_iload hx hb dX3_weighLanes_125 (lv_at hl 2 rfl) ?_
        refine va_iald hx hb hK hP 2 0 rfl rfl (z_in (by omega) (by omega)) dX3_weighLanes_127 ?_
        refine lv_topi (fun x_34 ex_34 => ?_)
        have zx_34r0 : 0 ≤ x_34.toInt ∧ x_34.toInt ≤ 10 := by rw [ex_34]; exact PR.ld hp_tng6_0 (by omega) (by omega) (by omega)
        refine lv_isub hx hb dX3_weighLanes_128 ?_
        refine lv_topi (fun x_35 ex_35 => ?_)
        have zx_35 : x_35.toInt = 10 - x_34.toInt := by rw [ex_35]; exact z_sub rfl rfl (by omega) (by omega)
        refine lv_i2l (v := x_35.toInt64) hx hb dX3_weighLanes_129 rfl ?_
        refine lv_lmul hx hb dX3_weighLanes_130 ?_
        refine lv_topl (fun x_36 ex_36 => ?_)
        refine lv_iload hx hb dX3_weighLanes_131 (lv_at hl 11 rfl) ?_
        refine lv_iconst (v := 1) hx hb dX3_weighLanes_133 (by decide) ?_
        refine lv_iadd hx hb dX3_weighLanes_134 ?_
        refine lv_topi (fun x_37 ex_37 => ?_)
        obtain rfl : x_37 = 8 := ex_37.trans (by decide)
        have hPc := hP.sub (ws' := [(ob, .inr (3, [.ref oba, .ref ob_1])), (oba, .inr (1, [.ref oba_0, .int o_5, .int o_6])), (oba_0, .inl (k 0, 8, .inl o_7)), (ob_1, .inl (k 2, 1000, .inr (.inl obg1))), (tn, .inr (10, [.int tnv0, .int tnv1, .int tnv2, .ref tn_3, .ref tn_4, .ref tn_5, .ref tn_6, .int tnv7, .int tnv8, .ref tn_9, .ref tn_10, .int tnv11, .ref tn_12, .ref tn_13, .ref tn_14, .ref tn_15, .int tnv16, .ref tn_17, .ref tn_18, .ref tnt])), (tn_3, .inl (k 0, 10, .inl tng3)), (tn_4, .inl (k 0, 10, .inl tng4)), (tn_5, .inl (k 0, 10, .inl tng5)), (tn_6, .inl (k 0, 10, .inl tng6)), (tn_9, .inl (k 0, 4, .inl tng9)), (tn_10, .inl (k 0, 4, .inl tng10))]) [0, 3, 4, 1, 5, 6, 7, 8, 2, 9, 10] rfl
        have hDc := hD.sub (ws' := [(ob, .inr (3, [.ref oba, .ref ob_1])), (oba, .inr (1, [.ref oba_0, .int o_5, .int o_6])), (oba_0, .inl (k 0, 8, .inl o_7)), (ob_1, .inl (k 2, 1000, .inr (.inl obg1))), (tn, .inr (10, [.int tnv0, .int tnv1, .int tnv2, .ref tn_3, .ref tn_4, .ref tn_5, .ref tn_6, .int tnv7, .int tnv8, .ref tn_9, .ref tn_10, .int tnv11, .ref tn_12, .ref tn_13, .ref tn_14, .ref tn_15, .int tnv16, .ref tn_17, .ref tn_18, .ref tnt])), (tn_3, .inl (k 0, 10, .inl tng3)), (tn_4, .inl (k 0, 10, .inl tng4)), (tn_5, .inl (k 0, 10, .inl tng5)), (tn_6, .inl (k 0, 10, .inl tng6)), (tn_9, .inl (k 0, 4, .inl tng9)), (tn_10, .inl (k 0, 4, .inl tng10))]) [0, 3, 4, 1, 5, 6, 7, 8, 2, 9, 10] (by decide) rfl
        have hFc := va_free (wc := [(ob, .inr (3, [.ref oba, .ref ob_1])), (oba, .inr (1, [.ref oba_0, .int o_5, .int o_6])), (oba_0, .inl (k 0, 8, .inl o_7)), (ob_1, .inl (k 2, 1000, .inr (.inl obg1))), (tn, .inr (10, [.int tnv0, .int tnv1, .int tnv2, .ref tn_3, .ref tn_4, .ref tn_5, .ref tn_6, .int tnv7, .int tnv8, .ref tn_9, .ref tn_10, .int tnv11, .ref tn_12, .ref tn_13, .ref tn_14, .ref tn_15, .int tnv16, .ref tn_17, .ref tn_18, .ref tnt])), (tn_3, .inl (k 0, 10, .inl tng3)), (tn_4, .inl (k 0, 10, .inl tng4)), (tn_5, .inl (k 0, 10, .inl tng5)), (tn_6, .inl (k 0, 10, .inl tng6)), (tn_9, .inl (k 0, 4, .inl tng9)), (tn_10, .inl (k 0, 4, .inl tng10))]) hD hS hA [0, 3, 4, 1, 5, 6, 7, 8, 2, 9, 10] rfl
        refine va_callv (va_runV (C := RX3) (As := [.ref tn, .int p1, .int x_33, .int p3, .long x_36, .int 8]) (rest := []) ⟨hx, hb, hml, hown, hts⟩ (c_X3_weighLanes_2 l D k ob tn p1 x_33 p3 x_36 oba ob_1 oba_0 o_5 o_6 o_7 obg1 tnv0 tnv1 tnv2 tn_3 tn_4 tn_5 tn_6 tnv7 tnv8 tn_9 tn_10 tnv11 tn_12 tn_13 tn_14 tn_15 tnv16 tn_17 tn_18 tnt tng3 tng4 tng5 tng6 tng9 tng10 H.size (show 0 ≤ p1.toInt ∧ p1.toInt ≤ 7 from by omega) hw_9 (show 0 ≤ tnv0.toInt ∧ tnv0.toInt ≤ 8 from by omega) (show 0 ≤ tnv2.toInt ∧ tnv2.toInt ≤ 10 from by omega) (show 0 ≤ tnv8.toInt ∧ tnv8.toInt ≤ 4 from by omega) (show 0 ≤ tnv11.toInt ∧ tnv11.toInt ≤ 6 from by omega) (show 0 ≤ tnv16.toInt ∧ tnv16.toInt ≤ 2 from by omega) hp_tng3_0 hp_tng4_0 hp_tng5_0 hp_tng6_0 hp_tng9_0 hp_tng10_0) (cwV 6 hts (gV tw_5_151 tw_5_153 tw_p_34 tw_1_12 tw_5_154) rfl rfl rfl hdV_X3_weighLanes ⟨Nat.le_of_ble_eq_true rfl, Nat.le_of_ble_eq_true rfl⟩) (cz_V hK hPc hDc hN (ci := 3) (q0 := 0) rfl rfl [.ref tn, .int p1, .int x_33, .int p3, .long x_36, .int 8]) rfl rfl hl.1 rfl (lv_room (Nat.le_of_ble_eq_true rfl)) dX3_weighLanes_135 ⟨Nat.le_of_ble_eq_true rfl, Nat.le_of_ble_eq_true rfl⟩) hS (fun q _ h => hFc q h) hFc (fun uZ tZ H1 locs ht hvm hw hB hz1 hk1 hS => ?_)
        obtain ⟨o_39, o_40, o_41, o_42⟩ := uZ
        obtain ⟨hP1, hK1, hD1⟩ := hB
        rw [ht] at hP1
        obtain ⟨hP, hD⟩ := va_join (wr := []) (w1 := [(ob, .inr (3, [.ref oba, .ref ob_1])), (oba, .inr (1, [.ref oba_0, .int o_39, .int o_40])), (oba_0, .inl (k 0, 8, .inl o_41)), (ob_1, .inl (k 2, 1000, .inr (.inl o_42))), (tn, .inr (10, [.int tnv0, .int tnv1, .int tnv2, .ref tn_3, .ref tn_4, .ref tn_5, .ref tn_6, .int tnv7, .int tnv8, .ref tn_9, .ref tn_10, .int tnv11, .ref tn_12, .ref tn_13, .ref tn_14, .ref tn_15, .int tnv16, .ref tn_17, .ref tn_18, .ref tnt])), (tn_3, .inl (k 0, 10, .inl tng3)), (tn_4, .inl (k 0, 10, .inl tng4)), (tn_5, .inl (k 0, 10, .inl tng5)), (tn_6, .inl (k 0, 10, .inl tng6)), (tn_9, .inl (k 0, 4, .inl tng9)), (tn_10, .inl (k 0, 4, .inl tng10))]) hP hD [0, 3, 4, 1, 5, 6, 7, 8, 2, 9, 10] [] rfl rfl (by decide) (by decide) hk1 hFc hP1 hD1
        clear hK1 hP1 hD1 hPc hDc hFc
        clear hk1 hz1 ht hvm
        have hP : va_P D vwCl [(ob, .inr (3, [.ref oba, .ref ob_1])), (oba, .inr (1, [.ref oba_0, .int o_39, .int o_40])), (oba_0, .inl (k 0, 8, .inl o_41)), (ob_1, .inl (k 2, 1000, .inr (.inl o_42))), (tn, .inr (10, [.int tnv0, .int tnv1, .int tnv2, .ref tn_3, .ref tn_4, .ref tn_5, .ref tn_6, .int tnv7, .int tnv8, .ref tn_9, .ref tn_10, .int tnv11, .ref tn_12, .ref tn_13, .ref tn_14, .ref tn_15, .int tnv16, .ref tn_17, .ref tn_18, .ref tnt])), (tn_3, .inl (k 0, 10, .inl tng3)), (tn_4, .inl (k 0, 10, .inl tng4)), (tn_5, .inl (k 0, 10, .inl tng5)), (tn_6, .inl (k 0, 10, .inl tng6)), (tn_9, .inl (k 0, 4, .inl tng9)), (tn_10, .inl (k 0, 4, .inl tng10))] H1 := hP
        have hD : va_D A [(ob, .inr (3, [.ref oba, .ref ob_1])), (oba, .inr (1, [.ref oba_0, .int o_39, .int o_40])), (oba_0, .inl (k 0, 8, .inl o_41)), (ob_1, .inl (k 2, 1000, .inr (.inl o_42))), (tn, .inr (10, [.int tnv0, .int tnv1, .int tnv2, .ref tn_3, .ref tn_4, .ref tn_5, .ref tn_6, .int tnv7, .int tnv8, .ref tn_9, .ref tn_10, .int tnv11, .ref tn_12, .ref tn_13, .ref tn_14, .ref tn_15, .int tnv16, .ref tn_17, .ref tn_18, .ref tnt])), (tn_3, .inl (k 0, 10, .inl tng3)), (tn_4, .inl (k 0, 10, .inl tng4)), (tn_5, .inl (k 0, 10, .inl tng5)), (tn_6, .inl (k 0, 10, .inl tng6)), (tn_9, .inl (k 0, 4, .inl tng9)), (tn_10, .inl (k 0, 4, .inl tng10))] := hD
        generalize H1 = H at hP hS ⊢
        have hw_43 : (PR 8 1 0 0 1000000 o_41) := hw
        have hw_44 := hw_43
        clear hw
        refine lv_aload_n hx hb dX3_weighLanes_138 rfl (lv_at hl 5 rfl) ?_
        refine lv_aload_n hx hb dX3_weighLanes_139 rfl (lv_at hl 6 rfl) ?_
        refine lv_iload_n hx hb dX3_weighLanes_140 rfl (lv_at hl 7 rfl) ?_
        refine lv_iload_n hx hb dX3_weighLanes_141 rfl (lv_at hl 8 rfl) ?_
        refine lv_iload hx hb dX3_weighLanes_142 (lv_at hl 1 rfl) ?_
        refine lv_ior hx hb dX3_weighLanes_144 ?_
        refine lv_topi (fun x_45 ex_45 => ?_)
        obtain rfl : x_33 = x_45 := ex_33.trans ex_45.symm
        refine lv_iload hx hb dX3_weighLanes_145 (lv_at hl 9 rfl) ?_
        refine lv_iload hx hb dX3_weighLanes_147 (lv_at hl 1 rfl) ?_
        refine lv_ior hx hb dX3_weighLanes_149 ?_
        refine lv_topi (fun x_46 ex_46 => ?_)
        have zrp3 := z_rng p3
        refine lv_lload hx hb dX3_weighLanes_150 (lv_at hl 0 rfl) ?_
        refine lv_aload_n hx hb dX3_weighLanes_152 rfl (lv_at hl 6 rfl) ?_
        refine va_get (D := D) (ci := 10) (v := .ref tn_6) (C := RX10) (T := TX10) (N := 20) hx hb hts iT_X10 hown hK hP 4 rfl rfl 6 (by decide) (hts _ tw_1_98) (fun _ h9 => h9) rfl dX3_weighLanes_153 ?_
        refine lv_iload hx hb dX3_weighLanes_156 (lv_at hl 2 rfl) ?_
        refine va_iald hx hb hK hP 8 0 rfl rfl (z_in (by omega) (by omega)) dX3_weighLanes_158 ?_
        refine lv_topi (fun x_47 ex_47 => ?_)
        obtain rfl : x_34 = x_47 := ex_34.trans ex_47.symm
        refine lv_i2l (v := x_34.toInt64) hx hb dX3_weighLanes_159 rfl ?_
        refine lv_lmul hx hb dX3_weighLanes_160 ?_
        refine lv_topl (fun x_48 ex_48 => ?_)
        refine lv_iload hx hb dX3_weighLanes_161 (lv_at hl 11 rfl) ?_
        refine lv_iconst (v := 1) hx hb dX3_weighLanes_163 (by decide) ?_
        refine lv_iadd hx hb dX3_weighLanes_164 ?_
        refine lv_topi (fun x_49 ex_49 => ?_)
        obtain rfl : x_49 = 8 := ex_49.trans (by decide)
        have hPc := hP.sub (ws' := [(ob, .inr (3, [.ref oba, .ref ob_1])), (oba, .inr (1, [.ref oba_0, .int o_39, .int o_40])), (oba_0, .inl (k 0, 8, .inl o_41)), (ob_1, .inl (k 2, 1000, .inr (.inl o_42))), (tn, .inr (10, [.int tnv0, .int tnv1, .int tnv2, .ref tn_3, .ref tn_4, .ref tn_5, .ref tn_6, .int tnv7, .int tnv8, .ref tn_9, .ref tn_10, .int tnv11, .ref tn_12, .ref tn_13, .ref tn_14, .ref tn_15, .int tnv16, .ref tn_17, .ref tn_18, .ref tnt])), (tn_3, .inl (k 0, 10, .inl tng3)), (tn_4, .inl (k 0, 10, .inl tng4)), (tn_5, .inl (k 0, 10, .inl tng5)), (tn_6, .inl (k 0, 10, .inl tng6)), (tn_9, .inl (k 0, 4, .inl tng9)), (tn_10, .inl (k 0, 4, .inl tng10))]) [0, 1, 2, 3, 4, 5, 6, 7, 8, 9, 10] rfl
        have hDc := hD.sub (ws' := [(ob, .inr (3, [.ref oba, .ref ob_1])), (oba, .inr (1, [.ref oba_0, .int o_39, .int o_40])), (oba_0, .inl (k 0, 8, .inl o_41)), (ob_1, .inl (k 2, 1000, .inr (.inl o_42))), (tn, .inr (10, [.int tnv0, .int tnv1, .int tnv2, .ref tn_3, .ref tn_4, .ref tn_5, .ref tn_6, .int tnv7, .int tnv8, .ref tn_9, .ref tn_10, .int tnv11, .ref tn_12, .ref tn_13, .ref tn_14, .ref tn_15, .int tnv16, .ref tn_17, .ref tn_18, .ref tnt])), (tn_3, .inl (k 0, 10, .inl tng3)), (tn_4, .inl (k 0, 10, .inl tng4)), (tn_5, .inl (k 0, 10, .inl tng5)), (tn_6, .inl (k 0, 10, .inl tng6)), (tn_9, .inl (k 0, 4, .inl tng9)), (tn_10, .inl (k 0, 4, .inl tng10))]) [0, 1, 2, 3, 4, 5, 6, 7, 8, 9, 10] (by decide) rfl
        have hFc := va_free (wc := [(ob, .inr (3, [.ref oba, .ref ob_1])), (oba, .inr (1, [.ref oba_0, .int o_39, .int o_40])), (oba_0, .inl (k 0, 8, .inl o_41)), (ob_1, .inl (k 2, 1000, .inr (.inl o_42))), (tn, .inr (10, [.int tnv0, .int tnv1, .int tnv2, .ref tn_3, .ref tn_4, .ref tn_5, .ref tn_6, .int tnv7, .int tnv8, .ref tn_9, .ref tn_10, .int tnv11, .ref tn_12, .ref tn_13, .ref tn_14, .ref tn_15, .int tnv16, .ref tn_17, .ref tn_18, .ref tnt])), (tn_3, .inl (k 0, 10, .inl tng3)), (tn_4, .inl (k 0, 10, .inl tng4)), (tn_5, .inl (k 0, 10, .inl tng5)), (tn_6, .inl (k 0, 10, .inl tng6)), (tn_9, .inl (k 0, 4, .inl tng9)), (tn_10, .inl (k 0, 4, .inl tng10))]) hD hS hA [0, 1, 2, 3, 4, 5, 6, 7, 8, 9, 10] rfl
        refine va_callv (va_runV (C := RX3) (As := [.ref tn, .int p1, .int x_33, .int x_46, .long x_48, .int 8]) (rest := []) ⟨hx, hb, hml, hown, hts⟩ (c_X3_weighLanes_2 l D k ob tn p1 x_33 x_46 x_48 oba ob_1 oba_0 o_39 o_40 o_41 o_42 tnv0 tnv1 tnv2 tn_3 tn_4 tn_5 tn_6 tnv7 tnv8 tn_9 tn_10 tnv11 tn_12 tn_13 tn_14 tn_15 tnv16 tn_17 tn_18 tnt tng3 tng4 tng5 tng6 tng9 tng10 H.size (show 0 ≤ p1.toInt ∧ p1.toInt ≤ 7 from by omega) hw_44 (show 0 ≤ tnv0.toInt ∧ tnv0.toInt ≤ 8 from by omega) (show 0 ≤ tnv2.toInt ∧ tnv2.toInt ≤ 10 from by omega) (show 0 ≤ tnv8.toInt ∧ tnv8.toInt ≤ 4 from by omega) (show 0 ≤ tnv11.toInt ∧ tnv11.toInt ≤ 6 from by omega) (show 0 ≤ tnv16.toInt ∧ tnv16.toInt ≤ 2 from by omega) hp_tng3_0 hp_tng4_0 hp_tng5_0 hp_tng6_0 hp_tng9_0 hp_tng10_0) (cwV 6 hts (gV tw_5_151 tw_5_153 tw_p_34 tw_1_12 tw_5_154) rfl rfl rfl hdV_X3_weighLanes ⟨Nat.le_of_ble_eq_true rfl, Nat.le_of_ble_eq_true rfl⟩) (cz_V hK hPc hDc hN (ci := 3) (q0 := 0) rfl rfl [.ref tn, .int p1, .int x_33, .int x_46, .long x_48, .int 8]) rfl rfl hl.1 rfl (lv_room (Nat.le_of_ble_eq_true rfl)) dX3_weighLanes_165 ⟨Nat.le_of_ble_eq_true rfl, Nat.le_of_ble_eq_true rfl⟩) hS (fun q _ h => hFc q h) hFc (fun uZ tZ H1 locs ht hvm hw hB hz1 hk1 hS => ?_)
        obtain ⟨o_51, o_52, o_53, o_54⟩ := uZ
        obtain ⟨hP1, hK1, hD1⟩ := hB
        rw [ht] at hP1
        obtain ⟨hP, hD⟩ := va_join (wr := []) (w1 := [(ob, .inr (3, [.ref oba, .ref ob_1])), (oba, .inr (1, [.ref oba_0, .int o_51, .int o_52])), (oba_0, .inl (k 0, 8, .inl o_53)), (ob_1, .inl (k 2, 1000, .inr (.inl o_54))), (tn, .inr (10, [.int tnv0, .int tnv1, .int tnv2, .ref tn_3, .ref tn_4, .ref tn_5, .ref tn_6, .int tnv7, .int tnv8, .ref tn_9, .ref tn_10, .int tnv11, .ref tn_12, .ref tn_13, .ref tn_14, .ref tn_15, .int tnv16, .ref tn_17, .ref tn_18, .ref tnt])), (tn_3, .inl (k 0, 10, .inl tng3)), (tn_4, .inl (k 0, 10, .inl tng4)), (tn_5, .inl (k 0, 10, .inl tng5)), (tn_6, .inl (k 0, 10, .inl tng6)), (tn_9, .inl (k 0, 4, .inl tng9)), (tn_10, .inl (k 0, 4, .inl tng10))]) hP hD [0, 1, 2, 3, 4, 5, 6, 7, 8, 9, 10] [] rfl rfl (by decide) (by decide) hk1 hFc hP1 hD1
        clear hK1 hP1 hD1 hPc hDc hFc
        clear hk1 hz1 ht hvm
        have hP : va_P D vwCl [(ob, .inr (3, [.ref oba, .ref ob_1])), (oba, .inr (1, [.ref oba_0, .int o_51, .int o_52])), (oba_0, .inl (k 0, 8, .inl o_53)), (ob_1, .inl (k 2, 1000, .inr (.inl o_54))), (tn, .inr (10, [.int tnv0, .int tnv1, .int tnv2, .ref tn_3, .ref tn_4, .ref tn_5, .ref tn_6, .int tnv7, .int tnv8, .ref tn_9, .ref tn_10, .int tnv11, .ref tn_12, .ref tn_13, .ref tn_14, .ref tn_15, .int tnv16, .ref tn_17, .ref tn_18, .ref tnt])), (tn_3, .inl (k 0, 10, .inl tng3)), (tn_4, .inl (k 0, 10, .inl tng4)), (tn_5, .inl (k 0, 10, .inl tng5)), (tn_6, .inl (k 0, 10, .inl tng6)), (tn_9, .inl (k 0, 4, .inl tng9)), (tn_10, .inl (k 0, 4, .inl tng10))] H1 := hP
        have hD : va_D A [(ob, .inr (3, [.ref oba, .ref ob_1])), (oba, .inr (1, [.ref oba_0, .int o_51, .int o_52])), (oba_0, .inl (k 0, 8, .inl o_53)), (ob_1, .inl (k 2, 1000, .inr (.inl o_54))), (tn, .inr (10, [.int tnv0, .int tnv1, .int tnv2, .ref tn_3, .ref tn_4, .ref tn_5, .ref tn_6, .int tnv7, .int tnv8, .ref tn_9, .ref tn_10, .int tnv11, .ref tn_12, .ref tn_13, .ref tn_14, .ref tn_15, .int tnv16, .ref tn_17, .ref tn_18, .ref tnt])), (tn_3, .inl (k 0, 10, .inl tng3)), (tn_4, .inl (k 0, 10, .inl tng4)), (tn_5, .inl (k 0, 10, .inl tng5)), (tn_6, .inl (k 0, 10, .inl tng6)), (tn_9, .inl (k 0, 4, .inl tng9)), (tn_10, .inl (k 0, 4, .inl tng10))] := hD
        generalize H1 = H at hP hS ⊢
        have hw_55 : (PR 8 1 0 0 1000000 o_53) := hw
        have hw_56 := hw_55
        clear hw
        have hP9 := hP.sub (ws' := [(ob, .inr (3, [.ref oba, .ref ob_1])), (oba, .inr (1, [.ref oba_0, .int o_51, .int o_52])), (oba_0, .inl (k 0, 8, .inl o_53)), (ob_1, .inl (k 2, 1000, .inr (.inl o_54))), (tn, .inr (10, [.int tnv0, .int tnv1, .int tnv2, .ref tn_3, .ref tn_4, .ref tn_5, .ref tn_6, .int tnv7, .int tnv8, .ref tn_9, .ref tn_10, .int tnv11, .ref tn_12, .ref tn_13, .ref tn_14, .ref tn_15, .int tnv16, .ref tn_17, .ref tn_18, .ref tnt])), (tn_3, .inl (k 0, 10, .inl tng3)), (tn_4, .inl (k 0, 10, .inl tng4)), (tn_5, .inl (k 0, 10, .inl tng5)), (tn_6, .inl (k 0, 10, .inl tng6)), (tn_9, .inl (k 0, 4, .inl tng9)), (tn_10, .inl (k 0, 4, .inl tng10))]) [0, 1, 2, 3, 4, 5, 6, 7, 8, 9, 10] rfl
        have hD9 := hD.sub (ws' := [(ob, .inr (3, [.ref oba, .ref ob_1])), (oba, .inr (1, [.ref oba_0, .int o_51, .int o_52])), (oba_0, .inl (k 0, 8, .inl o_53)), (ob_1, .inl (k 2, 1000, .inr (.inl o_54))), (tn, .inr (10, [.int tnv0, .int tnv1, .int tnv2, .ref tn_3, .ref tn_4, .ref tn_5, .ref tn_6, .int tnv7, .int tnv8, .ref tn_9, .ref tn_10, .int tnv11, .ref tn_12, .ref tn_13, .ref tn_14, .ref tn_15, .int tnv16, .ref tn_17, .ref tn_18, .ref tnt])), (tn_3, .inl (k 0, 10, .inl tng3)), (tn_4, .inl (k 0, 10, .inl tng4)), (tn_5, .inl (k 0, 10, .inl tng5)), (tn_6, .inl (k 0, 10, .inl tng6)), (tn_9, .inl (k 0, 4, .inl tng9)), (tn_10, .inl (k 0, 4, .inl tng10))]) [0, 1, 2, 3, 4, 5, 6, 7, 8, 9, 10] (by decide) rfl
        exact W.vret hx hb hr (fun tZ ht hW => ⟨⟨(o_51, o_52, o_53, o_54), rfl, hw_56, by rw [ht]; exact hP9, va_K.moved hW.alike hK, hD9⟩, hS.F ht⟩) hS.2.2 dX3_weighLanes_168
  · skip
    have zh_11 : 1000 ≤ x_10.toInt := z_nlt h_11
    have hP9 := hP.sub (ws' := [(ob, .inr (3, [.ref oba, .ref ob_1])), (oba, .inr (1, [.ref oba_0, .int o_5, .int o_6])), (oba_0, .inl (k 0, 8, .inl o_7)), (ob_1, .inl (k 2, 1000, .inr (.inl obg1))), (tn, .inr (10, [.int tnv0, .int tnv1, .int tnv2, .ref tn_3, .ref tn_4, .ref tn_5, .ref tn_6, .int tnv7, .int tnv8, .ref tn_9, .ref tn_10, .int tnv11, .ref tn_12, .ref tn_13, .ref tn_14, .ref tn_15, .int tnv16, .ref tn_17, .ref tn_18, .ref tnt])), (tn_3, .inl (k 0, 10, .inl tng3)), (tn_4, .inl (k 0, 10, .inl tng4)), (tn_5, .inl (k 0, 10, .inl tng5)), (tn_6, .inl (k 0, 10, .inl tng6)), (tn_9, .inl (k 0, 4, .inl tng9)), (tn_10, .inl (k 0, 4, .inl tng10))]) [0, 3, 4, 1, 5, 6, 7, 8, 2, 9, 10] rfl
    have hD9 := hD.sub (ws' := [(ob, .inr (3, [.ref oba, .ref ob_1])), (oba, .inr (1, [.ref oba_0, .int o_5, .int o_6])), (oba_0, .inl (k 0, 8, .inl o_7)), (ob_1, .inl (k 2, 1000, .inr (.inl obg1))), (tn, .inr (10, [.int tnv0, .int tnv1, .int tnv2, .ref tn_3, .ref tn_4, .ref tn_5, .ref tn_6, .int tnv7, .int tnv8, .ref tn_9, .ref tn_10, .int tnv11, .ref tn_12, .ref tn_13, .ref tn_14, .ref tn_15, .int tnv16, .ref tn_17, .ref tn_18, .ref tnt])), (tn_3, .inl (k 0, 10, .inl tng3)), (tn_4, .inl (k 0, 10, .inl tng4)), (tn_5, .inl (k 0, 10, .inl tng5)), (tn_6, .inl (k 0, 10, .inl tng6)), (tn_9, .inl (k 0, 4, .inl tng9)), (tn_10, .inl (k 0, 4, .inl tng10))]) [0, 3, 4, 1, 5, 6, 7, 8, 2, 9, 10] (by decide) rfl
    exact W.vret hx hb hr (fun tZ ht hW => ⟨⟨(o_5, o_6, o_7, obg1), rfl, hw_9, by rw [ht]; exact hP9, va_K.moved hW.alike hK, hD9⟩, hS.F ht⟩) hS.2.2 dX3_weighLanes_33
set_option maxHeartbeats 4000000 in
set_option maxRecDepth 100000 in
theorem c_X3_weighLanes_4 (l : Launch) (D : va_G) (k : Nat → ClassId) (ob : Nat) (tn : Nat) (p1 : Int32) (p2 : Int32) (p3 : Int32) (p4 : Int64) (oba : Nat) (ob_1 : Nat) (oba_0 : Nat) (obav1 : Int32) (obav2 : Int32) (obag0 : Nat → Int32) (obg1 : Nat → Int64) (tnv0 : Int32) (tnv1 : Int32) (tnv2 : Int32) (tn_3 : Nat) (tn_4 : Nat) (tn_5 : Nat) (tn_6 : Nat) (tnv7 : Int32) (tnv8 : Int32) (tn_9 : Nat) (tn_10 : Nat) (tnv11 : Int32) (tn_12 : Nat) (tn_13 : Nat) (tn_14 : Nat) (tn_15 : Nat) (tnv16 : Int32) (tn_17 : Nat) (tn_18 : Nat) (tnt : Nat) (tng3 : Nat → Int32) (tng4 : Nat → Int32) (tng5 : Nat → Int32) (tng6 : Nat → Int32) (tng9 : Nat → Int32) (tng10 : Nat → Int32) (sz : Nat) (h_p1 : 0 ≤ p1.toInt ∧ p1.toInt ≤ 7) (hp_obag0_0 : PR 8 1 0 0 1000000 obag0) (h_tnv0 : 0 ≤ tnv0.toInt ∧ tnv0.toInt ≤ 8) (h_tnv2 : 0 ≤ tnv2.toInt ∧ tnv2.toInt ≤ 10) (h_tnv8 : 0 ≤ tnv8.toInt ∧ tnv8.toInt ≤ 4) (h_tnv11 : 0 ≤ tnv11.toInt ∧ tnv11.toInt ≤ 6) (h_tnv16 : 0 ≤ tnv16.toInt ∧ tnv16.toInt ≤ 2) (hp_tng3_0 : PR 10 1 0 0 7 tng3) (hp_tng4_0 : PR 10 1 0 0 7 tng4) (hp_tng5_0 : PR 10 1 0 0 60 tng5) (hp_tng6_0 : PR 10 1 0 0 10 tng6) (hp_tng9_0 : PR 4 1 0 0 7 tng9) (hp_tng10_0 : PR 4 1 0 0 99 tng10) : Met l yX3_weighLanes (ww yX3_weighLanes cX3_weighLanes 14 none) ({ frames := 8, cells := 0, slots := 0, locals := 232 }) (Pre0 D k [(ob, .inr (3, [.ref oba, .ref ob_1])), (oba, .inr (1, [.ref oba_0, .int obav1, .int obav2])), (oba_0, .inl (k 0, 8, .inl obag0)), (ob_1, .inl (k 2, 1000, .inr (.inl obg1))), (tn, .inr (10, [.int tnv0, .int tnv1, .int tnv2, .ref tn_3, .ref tn_4, .ref tn_5, .ref tn_6, .int tnv7, .int tnv8, .ref tn_9, .ref tn_10, .int tnv11, .ref tn_12, .ref tn_13, .ref tn_14, .ref tn_15, .int tnv16, .ref tn_17, .ref tn_18, .ref tnt])), (tn_3, .inl (k 0, 10, .inl tng3)), (tn_4, .inl (k 0, 10, .inl tng4)), (tn_5, .inl (k 0, 10, .inl tng5)), (tn_6, .inl (k 0, 10, .inl tng6)), (tn_9, .inl (k 0, 4, .inl tng9)), (tn_10, .inl (k 0, 4, .inl tng10))] sz [.ref ob, .ref tn, .int p1, .int p2, .int p3, .long p4, .int 6]) (va_Qv (fun (u : Int32 × Int32 × (Nat → Int32) × (Nat → Int64)) => match u with | (obav1z, obav2z, obag0z, obg1z) => (PR 8 1 0 0 1000000 obag0z)) (fun (u : Int32 × Int32 × (Nat → Int32) × (Nat → Int64)) tZ => match u with | (obav1z, obav2z, obag0z, obg1z) => Bw D k (va_A [(ob, .inr (3, [.ref oba, .ref ob_1])), (oba, .inr (1, [.ref oba_0, .int obav1, .int obav2])), (oba_0, .inl (k 0, 8, .inl obag0)), (ob_1, .inl (k 2, 1000, .inr (.inl obg1))), (tn, .inr (10, [.int tnv0, .int tnv1, .int tnv2, .ref tn_3, .ref tn_4, .ref tn_5, .ref tn_6, .int tnv7, .int tnv8, .ref tn_9, .ref tn_10, .int tnv11, .ref tn_12, .ref tn_13, .ref tn_14, .ref tn_15, .int tnv16, .ref tn_17, .ref tn_18, .ref tnt])), (tn_3, .inl (k 0, 10, .inl tng3)), (tn_4, .inl (k 0, 10, .inl tng4)), (tn_5, .inl (k 0, 10, .inl tng5)), (tn_6, .inl (k 0, 10, .inl tng6)), (tn_9, .inl (k 0, 4, .inl tng9)), (tn_10, .inl (k 0, 4, .inl tng10))] sz) [(ob, .inr (3, [.ref oba, .ref ob_1])), (oba, .inr (1, [.ref oba_0, .int obav1z, .int obav2z])), (oba_0, .inl (k 0, 8, .inl obag0z)), (ob_1, .inl (k 2, 1000, .inr (.inl obg1z))), (tn, .inr (10, [.int tnv0, .int tnv1, .int tnv2, .ref tn_3, .ref tn_4, .ref tn_5, .ref tn_6, .int tnv7, .int tnv8, .ref tn_9, .ref tn_10, .int tnv11, .ref tn_12, .ref tn_13, .ref tn_14, .ref tn_15, .int tnv16, .ref tn_17, .ref tn_18, .ref tnt])), (tn_3, .inl (k 0, 10, .inl tng3)), (tn_4, .inl (k 0, 10, .inl tng4)), (tn_5, .inl (k 0, 10, .inl tng5)), (tn_6, .inl (k 0, 10, .inl tng6)), (tn_9, .inl (k 0, 4, .inl tng9)), (tn_10, .inl (k 0, 4, .inl tng10))] tZ) (va_A [(ob, .inr (3, [.ref oba, .ref ob_1])), (oba, .inr (1, [.ref oba_0, .int obav1, .int obav2])), (oba_0, .inl (k 0, 8, .inl obag0)), (ob_1, .inl (k 2, 1000, .inr (.inl obg1))), (tn, .inr (10, [.int tnv0, .int tnv1, .int tnv2, .ref tn_3, .ref tn_4, .ref tn_5, .ref tn_6, .int tnv7, .int tnv8, .ref tn_9, .ref tn_10, .int tnv11, .ref tn_12, .ref tn_13, .ref tn_14, .ref tn_15, .int tnv16, .ref tn_17, .ref tn_18, .ref tnt])), (tn_3, .inl (k 0, 10, .inl tng3)), (tn_4, .inl (k 0, 10, .inl tng4)), (tn_5, .inl (k 0, 10, .inl tng5)), (tn_6, .inl (k 0, 10, .inl tng6)), (tn_9, .inl (k 0, 4, .inl tng9)), (tn_10, .inl (k 0, 4, .inl tng10))] sz)) 0 0 (va_A [(ob, .inr (3, [.ref oba, .ref ob_1])), (oba, .inr (1, [.ref oba_0, .int obav1, .int obav2])), (oba_0, .inl (k 0, 8, .inl obag0)), (ob_1, .inl (k 2, 1000, .inr (.inl obg1))), (tn, .inr (10, [.int tnv0, .int tnv1, .int tnv2, .ref tn_3, .ref tn_4, .ref tn_5, .ref tn_6, .int tnv7, .int tnv8, .ref tn_9, .ref tn_10, .int tnv11, .ref tn_12, .ref tn_13, .ref tn_14, .ref tn_15, .int tnv16, .ref tn_17, .ref tn_18, .ref tnt])), (tn_3, .inl (k 0, 10, .inl tng3)), (tn_4, .inl (k 0, 10, .inl tng4)), (tn_5, .inl (k 0, 10, .inl tng5)), (tn_6, .inl (k 0, 10, .inl tng6)), (tn_9, .inl (k 0, 4, .inl tng9)), (tn_10, .inl (k 0, 4, .inl tng10))] sz) := by
  refine Met.ofW (cc := cX3_weighLanes) (maxL := 14) (ret := none) (by decide +kernel) rfl ?_
  intro p e s m args below meth c s₁ B hml hv
  obtain ⟨rfl, hsz, hP, hK, hD0, hN⟩ := hv
  have hx := B.exec
  have hb := B.bytes
  have hr := B.returns
  have hts : ∀ w ∈ TT, w.before _ s = true := fun w h => atoms_spec (ws := ww yX3_weighLanes cX3_weighLanes 14 none) B.pre w (List.mem_cons_of_mem _ h)
  have hown : s.vm.findClass RX3 = some m.cls := findClass_of_methodNamed B.named
  have hlocks := B.notSynchronized
  subst hsz
  have hD := hD0.self (sz := s.heap.size)
  generalize hAe : va_A [(ob, .inr (3, [.ref oba, .ref ob_1])), (oba, .inr (1, [.ref oba_0, .int obav1, .int obav2])), (oba_0, .inl (k 0, 8, .inl obag0)), (ob_1, .inl (k 2, 1000, .inr (.inl obg1))), (tn, .inr (10, [.int tnv0, .int tnv1, .int tnv2, .ref tn_3, .ref tn_4, .ref tn_5, .ref tn_6, .int tnv7, .int tnv8, .ref tn_9, .ref tn_10, .int tnv11, .ref tn_12, .ref tn_13, .ref tn_14, .ref tn_15, .int tnv16, .ref tn_17, .ref tn_18, .ref tnt])), (tn_3, .inl (k 0, 10, .inl tng3)), (tn_4, .inl (k 0, 10, .inl tng4)), (tn_5, .inl (k 0, 10, .inl tng5)), (tn_6, .inl (k 0, 10, .inl tng6)), (tn_9, .inl (k 0, 4, .inl tng9)), (tn_10, .inl (k 0, 4, .inl tng10))] s.heap.size = A at hD ⊢
  have hA : ∀ q : Nat, s.heap.size ≤ q → A q := fun q h => by rw [← hAe]; exact Or.inr h
  have hS : va_S A s.heap s.heap [] := va_S.rf
  have hl := lv_entry ([.ref ob, .ref tn, .int p1, .int p2, .int p3, .long p4, .int 6]) (n := 14) (Nat.le_of_ble_eq_true rfl)
  rw [lg_entry_eq]
  generalize (lg_sl ([.ref ob, .ref tn, .int p1, .int p2, .int p3, .long p4, .int 6]) ++ List.replicate (14 - (lg_sl ([.ref ob, .ref tn, .int p1, .int p2, .int p3, .long p4, .int 6])).length) Slot.unset).toArray = ls at hl ⊢
  have hl : lv_has ls 14 [(0, .ref ob), (1, .ref tn), (2, .int p1), (3, .int p2), (4, .int p3), (5, .long p4), (7, .int 6)] := hl
  refine lv_aload_n hx hb dX3_weighLanes_0 rfl (lv_at hl 0 rfl) ?_
  refine va_get (D := D) (ci := 3) (v := .ref oba) (C := RX3) (T := TX3) (N := 2) hx hb hts iT_X3 hown hK hP 0 rfl rfl 0 (by decide) (hts _ tw_2_163) (fun _ h9 => h9) rfl dX3_weighLanes_1 ?_
  refine lv_aload_n hx hb dX3_weighLanes_4 rfl (lv_at hl 1 rfl) ?_
  refine lv_aload_n hx hb dX3_weighLanes_5 rfl (lv_at hl 1 rfl) ?_
  have hPc := hP.sub (ws' := [(tn, .inr (10, [.int tnv0, .int tnv1, .int tnv2, .ref tn_3, .ref tn_4, .ref tn_5, .ref tn_6, .int tnv7, .int tnv8, .ref tn_9, .ref tn_10, .int tnv11, .ref tn_12, .ref tn_13, .ref tn_14, .ref tn_15, .int tnv16, .ref tn_17, .ref tn_18, .ref tnt]))]) [4] rfl
  have hDc := hD.sub (ws' := [(tn, .inr (10, [.int tnv0, .int tnv1, .int tnv2, .ref tn_3, .ref tn_4, .ref tn_5, .ref tn_6, .int tnv7, .int tnv8, .ref tn_9, .ref tn_10, .int tnv11, .ref tn_12, .ref tn_13, .ref tn_14, .ref tn_15, .int tnv16, .ref tn_17, .ref tn_18, .ref tnt]))]) [4] (by decide) rfl
  have hFc := va_free (wc := [(tn, .inr (10, [.int tnv0, .int tnv1, .int tnv2, .ref tn_3, .ref tn_4, .ref tn_5, .ref tn_6, .int tnv7, .int tnv8, .ref tn_9, .ref tn_10, .int tnv11, .ref tn_12, .ref tn_13, .ref tn_14, .ref tn_15, .int tnv16, .ref tn_17, .ref tn_18, .ref tnt]))]) hD hS hA [4] rfl
  refine va_calli (va_runV (C := RX10) (As := []) (rest := [.ref tn, .ref oba]) ⟨hx, hb, hml, hown, hts⟩ (c_X10_openLanes l D k tn tnv0 tnv1 tnv2 tn_3 tn_4 tn_5 tn_6 tnv7 tnv8 tn_9 tn_10 tnv11 tn_12 tn_13 tn_14 tn_15 tnv16 tn_17 tn_18 tnt s.heap.size (show 0 ≤ tnv0.toInt ∧ tnv0.toInt ≤ 8 from by omega) (show 0 ≤ tnv2.toInt ∧ tnv2.toInt ≤ 10 from by omega) (show 0 ≤ tnv8.toInt ∧ tnv8.toInt ≤ 4 from by omega) (show 0 ≤ tnv11.toInt ∧ tnv11.toInt ≤ 6 from by omega) (show 0 ≤ tnv16.toInt ∧ tnv16.toInt ≤ 2 from by omega)) (cwV 0 hts (gV tw_5_155 tw_3_180 tw_3_181 tw_1_3 tw_3_182) rfl rfl rfl hdV_X10_openLanes ⟨Nat.le_of_ble_eq_true rfl, Nat.le_of_ble_eq_true rfl⟩) (cz_V hK hPc hDc hN (ci := 10) (q0 := 0) rfl rfl []) rfl rfl hl.1 rfl (lv_room (Nat.le_of_ble_eq_true rfl)) dX3_weighLanes_6 ⟨Nat.le_of_ble_eq_true rfl, Nat.le_of_ble_eq_true rfl⟩) hS (fun q _ h => hFc q h) hFc (fun r_1 uZ tZ H1 locs ht hvm hw hB hz1 hk1 hS => ?_)
  obtain ⟨hP1, hK1, hD1⟩ := hB
  rw [ht] at hP1
  obtain ⟨hP, hD⟩ := va_join (wr := [(ob, .inr (3, [.ref oba, .ref ob_1])), (oba, .inr (1, [.ref oba_0, .int obav1, .int obav2])), (oba_0, .inl (k 0, 8, .inl obag0)), (ob_1, .inl (k 2, 1000, .inr (.inl obg1))), (tn_3, .inl (k 0, 10, .inl tng3)), (tn_4, .inl (k 0, 10, .inl tng4)), (tn_5, .inl (k 0, 10, .inl tng5)), (tn_6, .inl (k 0, 10, .inl tng6)), (tn_9, .inl (k 0, 4, .inl tng9)), (tn_10, .inl (k 0, 4, .inl tng10))]) (w1 := [(tn, .inr (10, [.int tnv0, .int tnv1, .int tnv2, .ref tn_3, .ref tn_4, .ref tn_5, .ref tn_6, .int tnv7, .int tnv8, .ref tn_9, .ref tn_10, .int tnv11, .ref tn_12, .ref tn_13, .ref tn_14, .ref tn_15, .int tnv16, .ref tn_17, .ref tn_18, .ref tnt]))]) hP hD [4] [0, 1, 2, 3, 5, 6, 7, 8, 9, 10] rfl rfl (by decide) (by decide) hk1 hFc hP1 hD1
  clear hK1 hP1 hD1 hPc hDc hFc
  clear hk1 hz1 ht hvm
  have hP : va_P D vwCl [(ob, .inr (3, [.ref oba, .ref ob_1])), (oba, .inr (1, [.ref oba_0, .int obav1, .int obav2])), (oba_0, .inl (k 0, 8, .inl obag0)), (ob_1, .inl (k 2, 1000, .inr (.inl obg1))), (tn_3, .inl (k 0, 10, .inl tng3)), (tn_4, .inl (k 0, 10, .inl tng4)), (tn_5, .inl (k 0, 10, .inl tng5)), (tn_6, .inl (k 0, 10, .inl tng6)), (tn_9, .inl (k 0, 4, .inl tng9)), (tn_10, .inl (k 0, 4, .inl tng10)), (tn, .inr (10, [.int tnv0, .int tnv1, .int tnv2, .ref tn_3, .ref tn_4, .ref tn_5, .ref tn_6, .int tnv7, .int tnv8, .ref tn_9, .ref tn_10, .int tnv11, .ref tn_12, .ref tn_13, .ref tn_14, .ref tn_15, .int tnv16, .ref tn_17, .ref tn_18, .ref tnt]))] H1 := hP
  have hD : va_D A [(ob, .inr (3, [.ref oba, .ref ob_1])), (oba, .inr (1, [.ref oba_0, .int obav1, .int obav2])), (oba_0, .inl (k 0, 8, .inl obag0)), (ob_1, .inl (k 2, 1000, .inr (.inl obg1))), (tn_3, .inl (k 0, 10, .inl tng3)), (tn_4, .inl (k 0, 10, .inl tng4)), (tn_5, .inl (k 0, 10, .inl tng5)), (tn_6, .inl (k 0, 10, .inl tng6)), (tn_9, .inl (k 0, 4, .inl tng9)), (tn_10, .inl (k 0, 4, .inl tng10)), (tn, .inr (10, [.int tnv0, .int tnv1, .int tnv2, .ref tn_3, .ref tn_4, .ref tn_5, .ref tn_6, .int tnv7, .int tnv8, .ref tn_9, .ref tn_10, .int tnv11, .ref tn_12, .ref tn_13, .ref tn_14, .ref tn_15, .int tnv16, .ref tn_17, .ref tn_18, .ref tnt]))] := hD
  generalize H1 = H at hP hS ⊢
  have hw_2 : (0 ≤ r_1.toInt ∧ r_1.toInt ≤ 1023) := hw
  have hw_3 := hw_2
  clear hw
  refine lv_iload hx hb dX3_weighLanes_9 (lv_at hl 4 rfl) ?_
  have hPc := hP.sub (ws' := [(oba, .inr (1, [.ref oba_0, .int obav1, .int obav2])), (oba_0, .inl (k 0, 8, .inl obag0)), (tn, .inr (10, [.int tnv0, .int tnv1, .int tnv2, .ref tn_3, .ref tn_4, .ref tn_5, .ref tn_6, .int tnv7, .int tnv8, .ref tn_9, .ref tn_10, .int tnv11, .ref tn_12, .ref tn_13, .ref tn_14, .ref tn_15, .int tnv16, .ref tn_17, .ref tn_18, .ref tnt])), (tn_3, .inl (k 0, 10, .inl tng3)), (tn_4, .inl (k 0, 10, .inl tng4)), (tn_5, .inl (k 0, 10, .inl tng5)), (tn_9, .inl (k 0, 4, .inl tng9)), (tn_10, .inl (k 0, 4, .inl tng10))]) [1, 2, 10, 4, 5, 6, 8, 9] rfl
  have hDc := hD.sub (ws' := [(oba, .inr (1, [.ref oba_0, .int obav1, .int obav2])), (oba_0, .inl (k 0, 8, .inl obag0)), (tn, .inr (10, [.int tnv0, .int tnv1, .int tnv2, .ref tn_3, .ref tn_4, .ref tn_5, .ref tn_6, .int tnv7, .int tnv8, .ref tn_9, .ref tn_10, .int tnv11, .ref tn_12, .ref tn_13, .ref tn_14, .ref tn_15, .int tnv16, .ref tn_17, .ref tn_18, .ref tnt])), (tn_3, .inl (k 0, 10, .inl tng3)), (tn_4, .inl (k 0, 10, .inl tng4)), (tn_5, .inl (k 0, 10, .inl tng5)), (tn_9, .inl (k 0, 4, .inl tng9)), (tn_10, .inl (k 0, 4, .inl tng10))]) [1, 2, 10, 4, 5, 6, 8, 9] (by decide) rfl
  have hFc := va_free (wc := [(oba, .inr (1, [.ref oba_0, .int obav1, .int obav2])), (oba_0, .inl (k 0, 8, .inl obag0)), (tn, .inr (10, [.int tnv0, .int tnv1, .int tnv2, .ref tn_3, .ref tn_4, .ref tn_5, .ref tn_6, .int tnv7, .int tnv8, .ref tn_9, .ref tn_10, .int tnv11, .ref tn_12, .ref tn_13, .ref tn_14, .ref tn_15, .int tnv16, .ref tn_17, .ref tn_18, .ref tnt])), (tn_3, .inl (k 0, 10, .inl tng3)), (tn_4, .inl (k 0, 10, .inl tng4)), (tn_5, .inl (k 0, 10, .inl tng5)), (tn_9, .inl (k 0, 4, .inl tng9)), (tn_10, .inl (k 0, 4, .inl tng10))]) hD hS hA [1, 2, 10, 4, 5, 6, 8, 9] rfl
  refine va_callv (va_runV (C := RX1) (As := [.ref tn, .int r_1, .int p3]) (rest := []) ⟨hx, hb, hml, hown, hts⟩ (c_X1_fall l D k oba tn r_1 p3 oba_0 obav1 obav2 obag0 tnv0 tnv1 tnv2 tn_3 tn_4 tn_5 tn_6 tnv7 tnv8 tn_9 tn_10 tnv11 tn_12 tn_13 tn_14 tn_15 tnv16 tn_17 tn_18 tnt tng3 tng4 tng5 tng9 tng10 H.size hp_obag0_0 (show 0 ≤ tnv0.toInt ∧ tnv0.toInt ≤ 8 from by omega) (show 0 ≤ tnv2.toInt ∧ tnv2.toInt ≤ 10 from by omega) (show 0 ≤ tnv8.toInt ∧ tnv8.toInt ≤ 4 from by omega) (show 0 ≤ tnv11.toInt ∧ tnv11.toInt ≤ 6 from by omega) (show 0 ≤ tnv16.toInt ∧ tnv16.toInt ≤ 2 from by omega) hp_tng3_0 hp_tng4_0 hp_tng5_0 hp_tng9_0 hp_tng10_0) (cwV 3 hts (gV tw_5_156 tw_3_184 tw_3_185 tw_1_6 tw_3_186) rfl rfl rfl hdV_X1_fall ⟨Nat.le_of_ble_eq_true rfl, Nat.le_of_ble_eq_true rfl⟩) (cz_V hK hPc hDc hN (ci := 1) (q0 := 0) rfl rfl [.ref tn, .int r_1, .int p3]) rfl rfl hl.1 rfl (lv_room (Nat.le_of_ble_eq_true rfl)) dX3_weighLanes_11 ⟨Nat.le_of_ble_eq_true rfl, Nat.le_of_ble_eq_true rfl⟩) hS (fun q _ h => hFc q h) hFc (fun uZ tZ H1 locs ht hvm hw hB hz1 hk1 hS => ?_)
  obtain ⟨o_5, o_6, o_7⟩ := uZ
  obtain ⟨hP1, hK1, hD1⟩ := hB
  rw [ht] at hP1
  obtain ⟨hP, hD⟩ := va_join (wr := [(ob, .inr (3, [.ref oba, .ref ob_1])), (ob_1, .inl (k 2, 1000, .inr (.inl obg1))), (tn_6, .inl (k 0, 10, .inl tng6))]) (w1 := [(oba, .inr (1, [.ref oba_0, .int o_5, .int o_6])), (oba_0, .inl (k 0, 8, .inl o_7)), (tn, .inr (10, [.int tnv0, .int tnv1, .int tnv2, .ref tn_3, .ref tn_4, .ref tn_5, .ref tn_6, .int tnv7, .int tnv8, .ref tn_9, .ref tn_10, .int tnv11, .ref tn_12, .ref tn_13, .ref tn_14, .ref tn_15, .int tnv16, .ref tn_17, .ref tn_18, .ref tnt])), (tn_3, .inl (k 0, 10, .inl tng3)), (tn_4, .inl (k 0, 10, .inl tng4)), (tn_5, .inl (k 0, 10, .inl tng5)), (tn_9, .inl (k 0, 4, .inl tng9)), (tn_10, .inl (k 0, 4, .inl tng10))]) hP hD [1, 2, 10, 4, 5, 6, 8, 9] [0, 3, 7] rfl rfl (by decide) (by decide) hk1 hFc hP1 hD1
  clear hK1 hP1 hD1 hPc hDc hFc
  clear hk1 hz1 ht hvm
  have hP : va_P D vwCl [(ob, .inr (3, [.ref oba, .ref ob_1])), (ob_1, .inl (k 2, 1000, .inr (.inl obg1))), (tn_6, .inl (k 0, 10, .inl tng6)), (oba, .inr (1, [.ref oba_0, .int o_5, .int o_6])), (oba_0, .inl (k 0, 8, .inl o_7)), (tn, .inr (10, [.int tnv0, .int tnv1, .int tnv2, .ref tn_3, .ref tn_4, .ref tn_5, .ref tn_6, .int tnv7, .int tnv8, .ref tn_9, .ref tn_10, .int tnv11, .ref tn_12, .ref tn_13, .ref tn_14, .ref tn_15, .int tnv16, .ref tn_17, .ref tn_18, .ref tnt])), (tn_3, .inl (k 0, 10, .inl tng3)), (tn_4, .inl (k 0, 10, .inl tng4)), (tn_5, .inl (k 0, 10, .inl tng5)), (tn_9, .inl (k 0, 4, .inl tng9)), (tn_10, .inl (k 0, 4, .inl tng10))] H1 := hP
  have hD : va_D A [(ob, .inr (3, [.ref oba, .ref ob_1])), (ob_1, .inl (k 2, 1000, .inr (.inl obg1))), (tn_6, .inl (k 0, 10, .inl tng6)), (oba, .inr (1, [.ref oba_0, .int o_5, .int o_6])), (oba_0, .inl (k 0, 8, .inl o_7)), (tn, .inr (10, [.int tnv0, .int tnv1, .int tnv2, .ref tn_3, .ref tn_4, .ref tn_5, .ref tn_6, .int tnv7, .int tnv8, .ref tn_9, .ref tn_10, .int tnv11, .ref tn_12, .ref tn_13, .ref tn_14, .ref tn_15, .int tnv16, .ref tn_17, .ref tn_18, .ref tnt])), (tn_3, .inl (k 0, 10, .inl tng3)), (tn_4, .inl (k 0, 10, .inl tng4)), (tn_5, .inl (k 0, 10, .inl tng5)), (tn_9, .inl (k 0, 4, .inl tng9)), (tn_10, .inl (k 0, 4, .inl tng10))] := hD
  generalize H1 = H at hP hS ⊢
  have hw_8 : (PR 8 1 0 0 1000000 o_7) := hw
  have hw_9 := hw_8
  clear hw
  refine lv_aload_n hx hb dX3_weighLanes_14 rfl (lv_at hl 0 rfl) ?_
  refine va_get (D := D) (ci := 3) (v := .ref oba) (C := RX3) (T := TX3) (N := 2) hx hb hts iT_X3 hown hK hP 0 rfl rfl 0 (by decide) (hts _ tw_2_163) (fun _ h9 => h9) rfl dX3_weighLanes_15 ?_
  refine va_get (D := D) (ci := 1) (v := .ref oba_0) (C := RX1) (T := TX1) (N := 3) hx hb hts iT_X1 hown hK hP 3 rfl rfl 0 (by decide) (hts _ tw_2_21) (fun _ h9 => h9) rfl dX3_weighLanes_18 ?_
  refine lv_iload_n hx hb dX3_weighLanes_21 rfl (lv_at hl 2 rfl) ?_
  refine va_iald hx hb hK hP 4 0 rfl rfl (z_in (by omega) (by omega)) dX3_weighLanes_22 ?_
  refine lv_topi (fun x_10 ex_10 => ?_)
  have zx_10r0 : 0 ≤ x_10.toInt ∧ x_10.toInt ≤ 1000000 := by rw [ex_10]; exact PR.ld hw_9 (by omega) (by omega) (by omega)
  refine lv_istore (lv' := [(8, .int x_10), (0, .ref ob), (1, .ref tn), (2, .int p1), (3, .int p2), (4, .int p3), (5, .long p4), (7, .int 6)]) hx hb dX3_weighLanes_23 hl (by decide) rfl (fun ls hl => ?_)
  refine lv_iload hx hb dX3_weighLanes_25 (lv_at hl 0 rfl) ?_
  refine lv_sipush (v := 1000) hx hb dX3_weighLanes_27 (by decide) ?_
  refine lv_icmp_lt (tgt := 34) hx hb dX3_weighLanes_30 (by decide) (fun h_11 => ?_) (fun h_11 => ?_)
  · skip
    have zh_11 : x_10.toInt < 1000 := z_lt h_11
    refine lv_aload_n hx hb dX3_weighLanes_34 rfl (lv_at hl 1 rfl) ?_
    refine va_get (D := D) (ci := 3) (v := .ref oba) (C := RX3) (T := TX3) (N := 2) hx hb hts iT_X3 hown hK hP 0 rfl rfl 0 (by decide) (hts _ tw_2_163) (fun _ h9 => h9) rfl dX3_weighLanes_35 ?_
    refine lv_aload_n hx hb dX3_weighLanes_38 rfl (lv_at hl 2 rfl) ?_
    refine lv_iload_n hx hb dX3_weighLanes_39 rfl (lv_at hl 3 rfl) ?_
    have hPc := hP.sub (ws' := [(oba, .inr (1, [.ref oba_0, .int o_5, .int o_6])), (oba_0, .inl (k 0, 8, .inl o_7)), (tn, .inr (10, [.int tnv0, .int tnv1, .int tnv2, .ref tn_3, .ref tn_4, .ref tn_5, .ref tn_6, .int tnv7, .int tnv8, .ref tn_9, .ref tn_10, .int tnv11, .ref tn_12, .ref tn_13, .ref tn_14, .ref tn_15, .int tnv16, .ref tn_17, .ref tn_18, .ref tnt])), (tn_3, .inl (k 0, 10, .inl tng3)), (tn_4, .inl (k 0, 10, .inl tng4)), (tn_5, .inl (k 0, 10, .inl tng5)), (tn_9, .inl (k 0, 4, .inl tng9)), (tn_10, .inl (k 0, 4, .inl tng10))]) [3, 4, 5, 6, 7, 8, 9, 10] rfl
    have hDc := hD.sub (ws' := [(oba, .inr (1, [.ref oba_0, .int o_5, .int o_6])), (oba_0, .inl (k 0, 8, .inl o_7)), (tn, .inr (10, [.int tnv0, .int tnv1, .int tnv2, .ref tn_3, .ref tn_4, .ref tn_5, .ref tn_6, .int tnv7, .int tnv8, .ref tn_9, .ref tn_10, .int tnv11, .ref tn_12, .ref tn_13, .ref tn_14, .ref tn_15, .int tnv16, .ref tn_17, .ref tn_18, .ref tnt])), (tn_3, .inl (k 0, 10, .inl tng3)), (tn_4, .inl (k 0, 10, .inl tng4)), (tn_5, .inl (k 0, 10, .inl tng5)), (tn_9, .inl (k 0, 4, .inl tng9)), (tn_10, .inl (k 0, 4, .inl tng10))]) [3, 4, 5, 6, 7, 8, 9, 10] (by decide) rfl
    have hFc := va_free (wc := [(oba, .inr (1, [.ref oba_0, .int o_5, .int o_6])), (oba_0, .inl (k 0, 8, .inl o_7)), (tn, .inr (10, [.int tnv0, .int tnv1, .int tnv2, .ref tn_3, .ref tn_4, .ref tn_5, .ref tn_6, .int tnv7, .int tnv8, .ref tn_9, .ref tn_10, .int tnv11, .ref tn_12, .ref tn_13, .ref tn_14, .ref tn_15, .int tnv16, .ref tn_17, .ref tn_18, .ref tnt])), (tn_3, .inl (k 0, 10, .inl tng3)), (tn_4, .inl (k 0, 10, .inl tng4)), (tn_5, .inl (k 0, 10, .inl tng5)), (tn_9, .inl (k 0, 4, .inl tng9)), (tn_10, .inl (k 0, 4, .inl tng10))]) hD hS hA [3, 4, 5, 6, 7, 8, 9, 10] rfl
    refine va_calli (va_runV (C := RX1) (As := [.ref tn, .int p1]) (rest := []) ⟨hx, hb, hml, hown, hts⟩ (c_X1_wayTo l D k oba tn p1 oba_0 o_5 o_6 o_7 tnv0 tnv1 tnv2 tn_3 tn_4 tn_5 tn_6 tnv7 tnv8 tn_9 tn_10 tnv11 tn_12 tn_13 tn_14 tn_15 tnv16 tn_17 tn_18 tnt tng3 tng4 tng5 tng9 tng10 H.size (show 0 ≤ p1.toInt ∧ p1.toInt ≤ 7 from by omega) hw_9 (show 0 ≤ tnv0.toInt ∧ tnv0.toInt ≤ 8 from by omega) (show 0 ≤ tnv2.toInt ∧ tnv2.toInt ≤ 10 from by omega) (show 0 ≤ tnv8.toInt ∧ tnv8.toInt ≤ 4 from by omega) (show 0 ≤ tnv11.toInt ∧ tnv11.toInt ≤ 6 from by omega) (show 0 ≤ tnv16.toInt ∧ tnv16.toInt ≤ 2 from by omega) hp_tng3_0 hp_tng4_0 hp_tng5_0 hp_tng9_0 hp_tng10_0) (cwV 2 hts (gV tw_5_157 tw_4_96 tw_4_97 tw_1_6 tw_4_98) rfl rfl rfl hdV_X1_wayTo ⟨Nat.le_of_ble_eq_true rfl, Nat.le_of_ble_eq_true rfl⟩) (cz_V hK hPc hDc hN (ci := 1) (q0 := 0) rfl rfl [.ref tn, .int p1]) rfl rfl hl.1 rfl (lv_room (Nat.le_of_ble_eq_true rfl)) dX3_weighLanes_40 ⟨Nat.le_of_ble_eq_true rfl, Nat.le_of_ble_eq_true rfl⟩) hS (fun q _ h => hFc q h) hFc (fun r_12 uZ tZ H1 locs ht hvm hw hB hz1 hk1 hS => ?_)
    obtain ⟨hP1, hK1, hD1⟩ := hB
    rw [ht] at hP1
    obtain ⟨hP, hD⟩ := va_join (wr := [(ob, .inr (3, [.ref oba, .ref ob_1])), (ob_1, .inl (k 2, 1000, .inr (.inl obg1))), (tn_6, .inl (k 0, 10, .inl tng6))]) (w1 := [(oba, .inr (1, [.ref oba_0, .int o_5, .int o_6])), (oba_0, .inl (k 0, 8, .inl o_7)), (tn, .inr (10, [.int tnv0, .int tnv1, .int tnv2, .ref tn_3, .ref tn_4, .ref tn_5, .ref tn_6, .int tnv7, .int tnv8, .ref tn_9, .ref tn_10, .int tnv11, .ref tn_12, .ref tn_13, .ref tn_14, .ref tn_15, .int tnv16, .ref tn_17, .ref tn_18, .ref tnt])), (tn_3, .inl (k 0, 10, .inl tng3)), (tn_4, .inl (k 0, 10, .inl tng4)), (tn_5, .inl (k 0, 10, .inl tng5)), (tn_9, .inl (k 0, 4, .inl tng9)), (tn_10, .inl (k 0, 4, .inl tng10))]) hP hD [3, 4, 5, 6, 7, 8, 9, 10] [0, 1, 2] rfl rfl (by decide) (by decide) hk1 hFc hP1 hD1
    clear hK1 hP1 hD1 hPc hDc hFc
    clear hk1 hz1 ht hvm
    have hP : va_P D vwCl [(ob, .inr (3, [.ref oba, .ref ob_1])), (ob_1, .inl (k 2, 1000, .inr (.inl obg1))), (tn_6, .inl (k 0, 10, .inl tng6)), (oba, .inr (1, [.ref oba_0, .int o_5, .int o_6])), (oba_0, .inl (k 0, 8, .inl o_7)), (tn, .inr (10, [.int tnv0, .int tnv1, .int tnv2, .ref tn_3, .ref tn_4, .ref tn_5, .ref tn_6, .int tnv7, .int tnv8, .ref tn_9, .ref tn_10, .int tnv11, .ref tn_12, .ref tn_13, .ref tn_14, .ref tn_15, .int tnv16, .ref tn_17, .ref tn_18, .ref tnt])), (tn_3, .inl (k 0, 10, .inl tng3)), (tn_4, .inl (k 0, 10, .inl tng4)), (tn_5, .inl (k 0, 10, .inl tng5)), (tn_9, .inl (k 0, 4, .inl tng9)), (tn_10, .inl (k 0, 4, .inl tng10))] H1 := hP
    have hD : va_D A [(ob, .inr (3, [.ref oba, .ref ob_1])), (ob_1, .inl (k 2, 1000, .inr (.inl obg1))), (tn_6, .inl (k 0, 10, .inl tng6)), (oba, .inr (1, [.ref oba_0, .int o_5, .int o_6])), (oba_0, .inl (k 0, 8, .inl o_7)), (tn, .inr (10, [.int tnv0, .int tnv1, .int tnv2, .ref tn_3, .ref tn_4, .ref tn_5, .ref tn_6, .int tnv7, .int tnv8, .ref tn_9, .ref tn_10, .int tnv11, .ref tn_12, .ref tn_13, .ref tn_14, .ref tn_15, .int tnv16, .ref tn_17, .ref tn_18, .ref tnt])), (tn_3, .inl (k 0, 10, .inl tng3)), (tn_4, .inl (k 0, 10, .inl tng4)), (tn_5, .inl (k 0, 10, .inl tng5)), (tn_9, .inl (k 0, 4, .inl tng9)), (tn_10, .inl (k 0, 4, .inl tng10))] := hD
    generalize H1 = H at hP hS ⊢
    have hw_13 : (0 ≤ r_12.toInt ∧ r_12.toInt ≤ 1023) := hw
    have hw_14 := hw_13
    clear hw
    refine lv_iload_n hx hb dX3_weighLanes_43 rfl (lv_at hl 4 rfl) ?_
    refine lv_iconst (v := (-1)) hx hb dX3_weighLanes_44 (by decide) ?_
    refine lv_ixor hx hb dX3_weighLanes_45 ?_
    refine lv_topi (fun x_15 ex_15 => ?_)
    have zrp2 := z_rng p2
    refine lv_iand hx hb dX3_weighLanes_46 ?_
    refine lv_topi (fun x_16 ex_16 => ?_)
    have zrx_15 := z_rng x_15
    have zx_16 : 0 ≤ x_16.toInt ∧ x_16.toInt ≤ r_12.toInt := by rw [ex_16]; exact z_andL (by omega)
    refine lv_istore (lv' := [(9, .int x_16), (8, .int x_10), (0, .ref ob), (1, .ref tn), (2, .int p1), (3, .int p2), (4, .int p3), (5, .long p4), (7, .int 6)]) hx hb dX3_weighLanes_47 hl (by decide) rfl (fun ls hl => ?_)
    refine lv_iload hx hb dX3_weighLanes_49 (lv_at hl 0 rfl) ?_
    refine lv_iload hx hb dX3_weighLanes_51 (lv_at hl 0 rfl) ?_
    refine lv_ineg hx hb dX3_weighLanes_53 ?_
    refine lv_topi (fun x_17 ex_17 => ?_)
    refine lv_iand hx hb dX3_weighLanes_54 ?_
    refine lv_topi (fun x_18 ex_18 => ?_)
    have zrx_17 := z_rng x_17
    have zx_18 : 0 ≤ x_18.toInt ∧ x_18.toInt ≤ x_16.toInt := by rw [ex_18]; exact z_andL (by omega)
    refine lv_iconst (v := 1) hx hb dX3_weighLanes_55 (by decide) ?_
    refine lv_isub hx hb dX3_weighLanes_56 ?_
    refine lv_topi (fun x_19 ex_19 => ?_)
    have zx_19 : x_19.toInt = x_18.toInt - 1 := by rw [ex_19]; exact z_sub rfl rfl (by omega) (by omega)
    have hPc := hP.sub (ws' := []) [] rfl
    have hDc := hD.sub (ws' := []) [] (by decide) rfl
    have hFc := va_free (wc := []) hD hS hA [] rfl
    refine va_calli (va_runS (As := [.int x_19]) (rest := []) ⟨hx, hb, hml, hown, hts⟩ (c_J6_bitCount_0f7a4 l D k x_19 H.size) (va_cwS 1 hts (gS tw_5_158 tw_4_101 tw_1_20 tw_4_102) rfl rfl rfl hdS_J6_bitCount_0f7a4 ⟨Nat.le_of_ble_eq_true rfl, Nat.le_of_ble_eq_true rfl⟩) (cz_S hK hPc hDc hN [.int x_19]) rfl rfl hl.1 rfl (lv_room (Nat.le_of_ble_eq_true rfl)) dX3_weighLanes_57 ⟨Nat.le_of_ble_eq_true rfl, Nat.le_of_ble_eq_true rfl⟩) hS (fun q _ h => hFc q h) hFc (fun r_20 uZ tZ H1 locs ht hvm hw hB hz1 hk1 hS => ?_)
    obtain ⟨hP1, hK1, hD1⟩ := hB
    rw [ht] at hP1
    obtain ⟨hP, hD⟩ := va_join (wr := [(ob, .inr (3, [.ref oba, .ref ob_1])), (ob_1, .inl (k 2, 1000, .inr (.inl obg1))), (tn_6, .inl (k 0, 10, .inl tng6)), (oba, .inr (1, [.ref oba_0, .int o_5, .int o_6])), (oba_0, .inl (k 0, 8, .inl o_7)), (tn, .inr (10, [.int tnv0, .int tnv1, .int tnv2, .ref tn_3, .ref tn_4, .ref tn_5, .ref tn_6, .int tnv7, .int tnv8, .ref tn_9, .ref tn_10, .int tnv11, .ref tn_12, .ref tn_13, .ref tn_14, .ref tn_15, .int tnv16, .ref tn_17, .ref tn_18, .ref tnt])), (tn_3, .inl (k 0, 10, .inl tng3)), (tn_4, .inl (k 0, 10, .inl tng4)), (tn_5, .inl (k 0, 10, .inl tng5)), (tn_9, .inl (k 0, 4, .inl tng9)), (tn_10, .inl (k 0, 4, .inl tng10))]) (w1 := []) hP hD [] [0, 1, 2, 3, 4, 5, 6, 7, 8, 9, 10] rfl rfl (by decide) (by decide) hk1 hFc hP1 hD1
    clear hK1 hP1 hD1 hPc hDc hFc
    clear hk1 hz1 ht hvm
    have hP : va_P D vwCl [(ob, .inr (3, [.ref oba, .ref ob_1])), (ob_1, .inl (k 2, 1000, .inr (.inl obg1))), (tn_6, .inl (k 0, 10, .inl tng6)), (oba, .inr (1, [.ref oba_0, .int o_5, .int o_6])), (oba_0, .inl (k 0, 8, .inl o_7)), (tn, .inr (10, [.int tnv0, .int tnv1, .int tnv2, .ref tn_3, .ref tn_4, .ref tn_5, .ref tn_6, .int tnv7, .int tnv8, .ref tn_9, .ref tn_10, .int tnv11, .ref tn_12, .ref tn_13, .ref tn_14, .ref tn_15, .int tnv16, .ref tn_17, .ref tn_18, .ref tnt])), (tn_3, .inl (k 0, 10, .inl tng3)), (tn_4, .inl (k 0, 10, .inl tng4)), (tn_5, .inl (k 0, 10, .inl tng5)), (tn_9, .inl (k 0, 4, .inl tng9)), (tn_10, .inl (k 0, 4, .inl tng10))] H1 := hP
    have hD : va_D A [(ob, .inr (3, [.ref oba, .ref ob_1])), (ob_1, .inl (k 2, 1000, .inr (.inl obg1))), (tn_6, .inl (k 0, 10, .inl tng6)), (oba, .inr (1, [.ref oba_0, .int o_5, .int o_6])), (oba_0, .inl (k 0, 8, .inl o_7)), (tn, .inr (10, [.int tnv0, .int tnv1, .int tnv2, .ref tn_3, .ref tn_4, .ref tn_5, .ref tn_6, .int tnv7, .int tnv8, .ref tn_9, .ref tn_10, .int tnv11, .ref tn_12, .ref tn_13, .ref tn_14, .ref tn_15, .int tnv16, .ref tn_17, .ref tn_18, .ref tnt])), (tn_3, .inl (k 0, 10, .inl tng3)), (tn_4, .inl (k 0, 10, .inl tng4)), (tn_5, .inl (k 0, 10, .inl tng5)), (tn_9, .inl (k 0, 4, .inl tng9)), (tn_10, .inl (k 0, 4, .inl tng10))] := hD
    generalize H1 = H at hP hS ⊢
    have hw_21 : (0 ≤ r_20.toInt ∧ r_20.toInt ≤ 63) := hw
    have hw_22 := hw_21
    clear hw
    refine lv_istore (lv' := [(10, .int r_20), (9, .int x_16), (8, .int x_10), (0, .ref ob), (1, .ref tn), (2, .int p1), (3, .int p2), (4, .int p3), (5, .long p4), (7, .int 6)]) hx hb dX3_weighLanes_60 hl (by decide) rfl (fun ls hl => ?_)
    refine lv_iload hx hb dX3_weighLanes_62 (lv_at hl 1 rfl) ?_
    refine lv_if_eq (tgt := 81) hx hb dX3_weighLanes_64 (by decide) (fun h_23 => ?_) (fun h_23 => ?_)
    · skip
      have zh_23 : x_16.toInt = 0 := z_eq h_23
      refine lv_aload_n hx hb dX3_weighLanes_81 rfl (lv_at hl 3 rfl) ?_
      refine va_get (D := D) (ci := 3) (v := .ref ob_1) (C := RX3) (T := TX3) (N := 2) hx hb hts iT_X3 hown hK hP 0 rfl rfl 1 (by decide) (hts _ tw_2_164) (fun _ h9 => h9) rfl dX3_weighLanes_82 ?_
      refine lv_iload hx hb dX3_weighLanes_85 (lv_at hl 2 rfl) ?_
      refine lv_dup2_11 hx hb dX3_weighLanes_87 rfl rfl ?_
      refine va_lald hx hb hK hP 1 2 rfl rfl (z_in (by omega) (by omega)) dX3_weighLanes_88 ?_
      refine lv_topl (fun x_24 ex_24 => ?_)
      refine lv_lload hx hb dX3_weighLanes_89 (lv_at hl 8 rfl) ?_
      refine lv_ladd hx hb dX3_weighLanes_91 ?_
      refine lv_topl (fun x_25 ex_25 => ?_)
      refine va_last hx hb hK hP hD hS 1 2 rfl rfl (z_in (by omega) (by omega)) dX3_weighLanes_92 (fun H locs hP hD hS => ?_)
      obtain ⟨g_26, eg_26⟩ : ∃ z : Nat → Int64, vp_updL obg1 x_10.toNatClampNeg x_25 = z := ⟨_, rfl⟩
      have hP : va_P D vwCl [(ob, .inr (3, [.ref oba, .ref ob_1])), (ob_1, .inl (k 2, 1000, .inr (.inl (vp_updL obg1 x_10.toNatClampNeg x_25)))), (tn_6, .inl (k 0, 10, .inl tng6)), (oba, .inr (1, [.ref oba_0, .int o_5, .int o_6])), (oba_0, .inl (k 0, 8, .inl o_7)), (tn, .inr (10, [.int tnv0, .int tnv1, .int tnv2, .ref tn_3, .ref tn_4, .ref tn_5, .ref tn_6, .int tnv7, .int tnv8, .ref tn_9, .ref tn_10, .int tnv11, .ref tn_12, .ref tn_13, .ref tn_14, .ref tn_15, .int tnv16, .ref tn_17, .ref tn_18, .ref tnt])), (tn_3, .inl (k 0, 10, .inl tng3)), (tn_4, .inl (k 0, 10, .inl tng4)), (tn_5, .inl (k 0, 10, .inl tng5)), (tn_9, .inl (k 0, 4, .inl tng9)), (tn_10, .inl (k 0, 4, .inl tng10))] H := hP
      have hD : va_D A [(ob, .inr (3, [.ref oba, .ref ob_1])), (ob_1, .inl (k 2, 1000, .inr (.inl (vp_updL obg1 x_10.toNatClampNeg x_25)))), (tn_6, .inl (k 0, 10, .inl tng6)), (oba, .inr (1, [.ref oba_0, .int o_5, .int o_6])), (oba_0, .inl (k 0, 8, .inl o_7)), (tn, .inr (10, [.int tnv0, .int tnv1, .int tnv2, .ref tn_3, .ref tn_4, .ref tn_5, .ref tn_6, .int tnv7, .int tnv8, .ref tn_9, .ref tn_10, .int tnv11, .ref tn_12, .ref tn_13, .ref tn_14, .ref tn_15, .int tnv16, .ref tn_17, .ref tn_18, .ref tnt])), (tn_3, .inl (k 0, 10, .inl tng3)), (tn_4, .inl (k 0, 10, .inl tng4)), (tn_5, .inl (k 0, 10, .inl tng5)), (tn_9, .inl (k 0, 4, .inl tng9)), (tn_10, .inl (k 0, 4, .inl tng10))] := hD
      rw [eg_26] at hP hD
      have hP9 := hP.sub (ws' := [(ob, .inr (3, [.ref oba, .ref ob_1])), (oba, .inr (1, [.ref oba_0, .int o_5, .int o_6])), (oba_0, .inl (k 0, 8, .inl o_7)), (ob_1, .inl (k 2, 1000, .inr (.inl g_26))), (tn, .inr (10, [.int tnv0, .int tnv1, .int tnv2, .ref tn_3, .ref tn_4, .ref tn_5, .ref tn_6, .int tnv7, .int tnv8, .ref tn_9, .ref tn_10, .int tnv11, .ref tn_12, .ref tn_13, .ref tn_14, .ref tn_15, .int tnv16, .ref tn_17, .ref tn_18, .ref tnt])), (tn_3, .inl (k 0, 10, .inl tng3)), (tn_4, .inl (k 0, 10, .inl tng4)), (tn_5, .inl (k 0, 10, .inl tng5)), (tn_6, .inl (k 0, 10, .inl tng6)), (tn_9, .inl (k 0, 4, .inl tng9)), (tn_10, .inl (k 0, 4, .inl tng10))]) [0, 3, 4, 1, 5, 6, 7, 8, 2, 9, 10] rfl
      have hD9 := hD.sub (ws' := [(ob, .inr (3, [.ref oba, .ref ob_1])), (oba, .inr (1, [.ref oba_0, .int o_5, .int o_6])), (oba_0, .inl (k 0, 8, .inl o_7)), (ob_1, .inl (k 2, 1000, .inr (.inl g_26))), (tn, .inr (10, [.int tnv0, .int tnv1, .int tnv2, .ref tn_3, .ref tn_4, .ref tn_5, .ref tn_6, .int tnv7, .int tnv8, .ref tn_9, .ref tn_10, .int tnv11, .ref tn_12, .ref tn_13, .ref tn_14, .ref tn_15, .int tnv16, .ref tn_17, .ref tn_18, .ref tnt])), (tn_3, .inl (k 0, 10, .inl tng3)), (tn_4, .inl (k 0, 10, .inl tng4)), (tn_5, .inl (k 0, 10, .inl tng5)), (tn_6, .inl (k 0, 10, .inl tng6)), (tn_9, .inl (k 0, 4, .inl tng9)), (tn_10, .inl (k 0, 4, .inl tng10))]) [0, 3, 4, 1, 5, 6, 7, 8, 2, 9, 10] (by decide) rfl
      exact W.vret hx hb hr (fun tZ ht hW => ⟨⟨(o_5, o_6, o_7, g_26), rfl, hw_9, by rw [ht]; exact hP9, va_K.moved hW.alike hK, hD9⟩, hS.F ht⟩) hS.2.2 dX3_weighLanes_93
    · skip
      have zh_23 : ¬ x_16.toInt = 0 := z_ne h_23
      refine lv_iload hx hb dX3_weighLanes_67 (lv_at hl 0 rfl) ?_
      refine lv_bipush (v := 10) hx hb dX3_weighLanes_69 (by decide) ?_
      refine lv_icmp_ge (tgt := 81) hx hb dX3_weighLanes_71 (by decide) (fun h_27 => ?_) (fun h_27 => ?_)
      · skip
        have zh_27 : 10 ≤ r_20.toInt := z_le h_27
        refine lv_aload_n hx hb dX3_weighLanes_81 rfl (lv_at hl 3 rfl) ?_
        refine va_get (D := D) (ci := 3) (v := .ref ob_1) (C := RX3) (T := TX3) (N := 2) hx hb hts iT_X3 hown hK hP 0 rfl rfl 1 (by decide) (hts _ tw_2_164) (fun _ h9 => h9) rfl dX3_weighLanes_82 ?_
        refine lv_iload hx hb dX3_weighLanes_85 (lv_at hl 2 rfl) ?_
        refine lv_dup2_11 hx hb dX3_weighLanes_87 rfl rfl ?_
        refine va_lald hx hb hK hP 1 2 rfl rfl (z_in (by omega) (by omega)) dX3_weighLanes_88 ?_
        refine lv_topl (fun x_28 ex_28 => ?_)
        refine lv_lload hx hb dX3_weighLanes_89 (lv_at hl 8 rfl) ?_
        refine lv_ladd hx hb dX3_weighLanes_91 ?_
        refine lv_topl (fun x_29 ex_29 => ?_)
        refine va_last hx hb hK hP hD hS 1 2 rfl rfl (z_in (by omega) (by omega)) dX3_weighLanes_92 (fun H locs hP hD hS => ?_)
        obtain ⟨g_30, eg_30⟩ : ∃ z : Nat → Int64, vp_updL obg1 x_10.toNatClampNeg x_29 = z := ⟨_, rfl⟩
        have hP : va_P D vwCl [(ob, .inr (3, [.ref oba, .ref ob_1])), (ob_1, .inl (k 2, 1000, .inr (.inl (vp_updL obg1 x_10.toNatClampNeg x_29)))), (tn_6, .inl (k 0, 10, .inl tng6)), (oba, .inr (1, [.ref oba_0, .int o_5, .int o_6])), (oba_0, .inl (k 0, 8, .inl o_7)), (tn, .inr (10, [.int tnv0, .int tnv1, .int tnv2, .ref tn_3, .ref tn_4, .ref tn_5, .ref tn_6, .int tnv7, .int tnv8, .ref tn_9, .ref tn_10, .int tnv11, .ref tn_12, .ref tn_13, .ref tn_14, .ref tn_15, .int tnv16, .ref tn_17, .ref tn_18, .ref tnt])), (tn_3, .inl (k 0, 10, .inl tng3)), (tn_4, .inl (k 0, 10, .inl tng4)), (tn_5, .inl (k 0, 10, .inl tng5)), (tn_9, .inl (k 0, 4, .inl tng9)), (tn_10, .inl (k 0, 4, .inl tng10))] H := hP
        have hD : va_D A [(ob, .inr (3, [.ref oba, .ref ob_1])), (ob_1, .inl (k 2, 1000, .inr (.inl (vp_updL obg1 x_10.toNatClampNeg x_29)))), (tn_6, .inl (k 0, 10, .inl tng6)), (oba, .inr (1, [.ref oba_0, .int o_5, .int o_6])), (oba_0, .inl (k 0, 8, .inl o_7)), (tn, .inr (10, [.int tnv0, .int tnv1, .int tnv2, .ref tn_3, .ref tn_4, .ref tn_5, .ref tn_6, .int tnv7, .int tnv8, .ref tn_9, .ref tn_10, .int tnv11, .ref tn_12, .ref tn_13, .ref tn_14, .ref tn_15, .int tnv16, .ref tn_17, .ref tn_18, .ref tnt])), (tn_3, .inl (k 0, 10, .inl tng3)), (tn_4, .inl (k 0, 10, .inl tng4)), (tn_5, .inl (k 0, 10, .inl tng5)), (tn_9, .inl (k 0, 4, .inl tng9)), (tn_10, .inl (k 0, 4, .inl tng10))] := hD
        rw [eg_30] at hP hD
        have hP9 := hP.sub (ws' := [(ob, .inr (3, [.ref oba, .ref ob_1])), (oba, .inr (1, [.ref oba_0, .int o_5, .int o_6])), (oba_0, .inl (k 0, 8, .inl o_7)), (ob_1, .inl (k 2, 1000, .inr (.inl g_30))), (tn, .inr (10, [.int tnv0, .int tnv1, .int tnv2, .ref tn_3, .ref tn_4, .ref tn_5, .ref tn_6, .int tnv7, .int tnv8, .ref tn_9, .ref tn_10, .int tnv11, .ref tn_12, .ref tn_13, .ref tn_14, .ref tn_15, .int tnv16, .ref tn_17, .ref tn_18, .ref tnt])), (tn_3, .inl (k 0, 10, .inl tng3)), (tn_4, .inl (k 0, 10, .inl tng4)), (tn_5, .inl (k 0, 10, .inl tng5)), (tn_6, .inl (k 0, 10, .inl tng6)), (tn_9, .inl (k 0, 4, .inl tng9)), (tn_10, .inl (k 0, 4, .inl tng10))]) [0, 3, 4, 1, 5, 6, 7, 8, 2, 9, 10] rfl
        have hD9 := hD.sub (ws' := [(ob, .inr (3, [.ref oba, .ref ob_1])), (oba, .inr (1, [.ref oba_0, .int o_5, .int o_6])), (oba_0, .inl (k 0, 8, .inl o_7)), (ob_1, .inl (k 2, 1000, .inr (.inl g_30))), (tn, .inr (10, [.int tnv0, .int tnv1, .int tnv2, .ref tn_3, .ref tn_4, .ref tn_5, .ref tn_6, .int tnv7, .int tnv8, .ref tn_9, .ref tn_10, .int tnv11, .ref tn_12, .ref tn_13, .ref tn_14, .ref tn_15, .int tnv16, .ref tn_17, .ref tn_18, .ref tnt])), (tn_3, .inl (k 0, 10, .inl tng3)), (tn_4, .inl (k 0, 10, .inl tng4)), (tn_5, .inl (k 0, 10, .inl tng5)), (tn_6, .inl (k 0, 10, .inl tng6)), (tn_9, .inl (k 0, 4, .inl tng9)), (tn_10, .inl (k 0, 4, .inl tng10))]) [0, 3, 4, 1, 5, 6, 7, 8, 2, 9, 10] (by decide) rfl
        exact W.vret hx hb hr (fun tZ ht hW => ⟨⟨(o_5, o_6, o_7, g_30), rfl, hw_9, by rw [ht]; exact hP9, va_K.moved hW.alike hK, hD9⟩, hS.F ht⟩) hS.2.2 dX3_weighLanes_93
      · skip
        have zh_27 : r_20.toInt < 10 := z_nle h_27
        refine lv_iload hx hb dX3_weighLanes_74 (lv_at hl 9 rfl) ?_
        refine lv_bipush (v := 10) hx hb dX3_weighLanes_76 (by decide) ?_
        refine lv_icmp_lt (tgt := 94) hx hb dX3_weighLanes_78 (by decide) (fun _ => ?_) (fun c9 => absurd c9 (by decide))
        refine lv_iconst (v := 1) hx hb dX3_weighLanes_94 (by decide) ?_
        refine lv_iload hx hb dX3_weighLanes_95 (lv_at hl 0 rfl) ?_
        refine lv_ishl hx hb dX3_weighLanes_97 ?_
        refine lv_topi (fun x_31 ex_31 => ?_)
        have zx_31 : 1 ≤ x_31.toInt ∧ x_31.toInt ≤ 512 := by rw [ex_31]; exact z_shl1 9 512 rfl (by decide) (by omega) (by omega)
        refine lv_istore (lv' := [(11, .int x_31), (10, .int r_20), (9, .int x_16), (8, .int x_10), (0, .ref ob), (1, .ref tn), (2, .int p1), (3, .int p2), (4, .int p3), (5, .long p4), (7, .int 6)]) hx hb dX3_weighLanes_98 hl (by decide) rfl (fun ls hl => ?_)
        refine lv_lload hx hb dX3_weighLanes_100 (lv_at hl 9 rfl) ?_
        refine lv_ldc2 (v := 10) hx hb hown (hts _ tw_5_159) dX3_weighLanes_102 ?_
        refine lv_ldiv hx hb dX3_weighLanes_105 (by decide) ?_
        refine lv_topl (fun x_32 ex_32 => ?_)
        refine lv_lstore (lv' := [(12, .long x_32), (11, .int x_31), (10, .int r_20), (9, .int x_16), (8, .int x_10), (0, .ref ob), (1, .ref tn), (2, .int p1), (3, .int p2), (4, .int p3), (5, .long p4), (7, .int 6)]) hx hb dX3_weighLanes_106 hl (by decide) rfl (fun ls hl => ?_)
        refine lv_aload_n hx hb dX3_weighLanes_108 rfl (lv_at hl 5 rfl) ?_
        refine lv_aload_n hx hb dX3_weighLanes_109 rfl (lv_at hl 6 rfl) ?_
        refine lv_iload_n hx hb dX3_weighLanes_110 rfl (lv_at hl 7 rfl) ?_
        refine lv_iload_n hx hb dX3_weighLanes_111 rfl (lv_at hl 8 rfl) ?_
        refine lv_iload hx hb dX3_weighLanes_112 (lv_at hl 1 rfl) ?_
        refine lv_ior hx hb dX3_weighLanes_114 ?_
        refine lv_topi (fun x_33 ex_33 => ?_)
        refine lv_iload hx hb dX3_weighLanes_115 (lv_at hl 9 rfl) ?_
        refine lv_lload hx hb dX3_weighLanes_117 (lv_at hl 0 rfl) ?_
        refine lv_bipush (v := 10) hx hb dX3_weighLanes_119 (by decide) ?_
        refine lv_aload_n hx hb dX3_weighLanes_121 rfl (lv_at hl 6 rfl) ?_
        refine va_get (D := D) (ci := 10) (v := .ref tn_6) (C := RX10) (T := TX10) (N := 20) hx hb hts iT_X10 hown hK hP 5 rfl rfl 6 (by decide) (hts _ tw_1_98) (fun _ h9 => h9) rfl dX3_weighLanes_122 ?_
        refine lv_iload hx hb dX3_weighLanes_125 (lv_at hl 2 rfl) ?_
        refine va_iald hx hb hK hP 2 0 rfl rfl (z_in (by omega) (by omega)) dX3_weighLanes_127 ?_
        refine lv_topi (fun x_34 ex_34 => ?_)
        have zx_34r0 : 0 ≤ x_34.toInt ∧ x_34.toInt ≤ 10 := by rw [ex_34]; exact PR.ld hp_tng6_0 (by omega) (by omega) (by omega)
        refine lv_isub hx hb dX3_weighLanes_128 ?_
        refine lv_topi (fun x_35 ex_35 => ?_)
        have zx_35 : x_35.toInt = 10 - x_34.toInt := by rw [ex_35]; exact z_sub rfl rfl (by omega) (by omega)
        refine lv_i2l (v := x_35.toInt64) hx hb dX3_weighLanes_129 rfl ?_
        refine lv_lmul hx hb dX3_weighLanes_130 ?_
        refine lv_topl (fun x_36 ex_36 => ?_)
        refine lv_iload hx hb dX3_weighLanes_131 (lv_at hl 11 rfl) ?_
        refine lv_iconst (v := 1) hx hb dX3_weighLanes_133 (by decide) ?_
        refine lv_iadd hx hb dX3_weighLanes_134 ?_
        refine lv_topi (fun x_37 ex_37 => ?_)
        obtain rfl : x_37 = 7 := ex_37.trans (by decide)
        have hPc := hP.sub (ws' := [(ob, .inr (3, [.ref oba, .ref ob_1])), (oba, .inr (1, [.ref oba_0, .int o_5, .int o_6])), (oba_0, .inl (k 0, 8, .inl o_7)), (ob_1, .inl (k 2, 1000, .inr (.inl obg1))), (tn, .inr (10, [.int tnv0, .int tnv1, .int tnv2, .ref tn_3, .ref tn_4, .ref tn_5, .ref tn_6, .int tnv7, .int tnv8, .ref tn_9, .ref tn_10, .int tnv11, .ref tn_12, .ref tn_13, .ref tn_14, .ref tn_15, .int tnv16, .ref tn_17, .ref tn_18, .ref tnt])), (tn_3, .inl (k 0, 10, .inl tng3)), (tn_4, .inl (k 0, 10, .inl tng4)), (tn_5, .inl (k 0, 10, .inl tng5)), (tn_6, .inl (k 0, 10, .inl tng6)), (tn_9, .inl (k 0, 4, .inl tng9)), (tn_10, .inl (k 0, 4, .inl tng10))]) [0, 3, 4, 1, 5, 6, 7, 8, 2, 9, 10] rfl
        have hDc := hD.sub (ws' := [(ob, .inr (3, [.ref oba, .ref ob_1])), (oba, .inr (1, [.ref oba_0, .int o_5, .int o_6])), (oba_0, .inl (k 0, 8, .inl o_7)), (ob_1, .inl (k 2, 1000, .inr (.inl obg1))), (tn, .inr (10, [.int tnv0, .int tnv1, .int tnv2, .ref tn_3, .ref tn_4, .ref tn_5, .ref tn_6, .int tnv7, .int tnv8, .ref tn_9, .ref tn_10, .int tnv11, .ref tn_12, .ref tn_13, .ref tn_14, .ref tn_15, .int tnv16, .ref tn_17, .ref tn_18, .ref tnt])), (tn_3, .inl (k 0, 10, .inl tng3)), (tn_4, .inl (k 0, 10, .inl tng4)), (tn_5, .inl (k 0, 10, .inl tng5)), (tn_6, .inl (k 0, 10, .inl tng6)), (tn_9, .inl (k 0, 4, .inl tng9)), (tn_10, .inl (k 0, 4, .inl tng10))]) [0, 3, 4, 1, 5, 6, 7, 8, 2, 9, 10] (by decide) rfl
        have hFc := va_free (wc := [(ob, .inr (3, [.ref oba, .ref ob_1])), (oba, .inr (1, [.ref oba_0, .int o_5, .int o_6])), (oba_0, .inl (k 0, 8, .inl o_7)), (ob_1, .inl (k 2, 1000, .inr (.inl obg1))), (tn, .inr (10, [.int tnv0, .int tnv1, .int tnv2, .ref tn_3, .ref tn_4, .ref tn_5, .ref tn_6, .int tnv7, .int tnv8, .ref tn_9, .ref tn_10, .int tnv11, .ref tn_12, .ref tn_13, .ref tn_14, .ref tn_15, .int tnv16, .ref tn_17, .ref tn_18, .ref tnt])), (tn_3, .inl (k 0, 10, .inl tng3)), (tn_4, .inl (k 0, 10, .inl tng4)), (tn_5, .inl (k 0, 10, .inl tng5)), (tn_6, .inl (k 0, 10, .inl tng6)), (tn_9, .inl (k 0, 4, .inl tng9)), (tn_10, .inl (k 0, 4, .inl tng10))]) hD hS hA [0, 3, 4, 1, 5, 6, 7, 8, 2, 9, 10] rfl
        refine va_callv (va_runV (C := RX3) (As := [.ref tn, .int p1, .int x_33, .int p3, .long x_36, .int 7]) (rest := []) ⟨hx, hb, hml, hown, hts⟩ (c_X3_weighLanes_3 l D k ob tn p1 x_33 p3 x_36 oba ob_1 oba_0 o_5 o_6 o_7 obg1 tnv0 tnv1 tnv2 tn_3 tn_4 tn_5 tn_6 tnv7 tnv8 tn_9 tn_10 tnv11 tn_12 tn_13 tn_14 tn_15 tnv16 tn_17 tn_18 tnt tng3 tng4 tng5 tng6 tng9 tng10 H.size (show 0 ≤ p1.toInt ∧ p1.toInt ≤ 7 from by omega) hw_9 (show 0 ≤ tnv0.toInt ∧ tnv0.toInt ≤ 8 from by omega) (show 0 ≤ tnv2.toInt ∧ tnv2.toInt ≤ 10 from by omega) (show 0 ≤ tnv8.toInt ∧ tnv8.toInt ≤ 4 from by omega) (show 0 ≤ tnv11.toInt ∧ tnv11.toInt ≤ 6 from by omega) (show 0 ≤ tnv16.toInt ∧ tnv16.toInt ≤ 2 from by omega) hp_tng3_0 hp_tng4_0 hp_tng5_0 hp_tng6_0 hp_tng9_0 hp_tng10_0) (cwV 6 hts (gV tw_5_151 tw_5_153 tw_p_34 tw_1_12 tw_5_154) rfl rfl rfl hdV_X3_weighLanes ⟨Nat.le_of_ble_eq_true rfl, Nat.le_of_ble_eq_true rfl⟩) (cz_V hK hPc hDc hN (ci := 3) (q0 := 0) rfl rfl [.ref tn, .int p1, .int x_33, .int p3, .long x_36, .int 7]) rfl rfl hl.1 rfl (lv_room (Nat.le_of_ble_eq_true rfl)) dX3_weighLanes_135 ⟨Nat.le_of_ble_eq_true rfl, Nat.le_of_ble_eq_true rfl⟩) hS (fun q _ h => hFc q h) hFc (fun uZ tZ H1 locs ht hvm hw hB hz1 hk1 hS => ?_)
        obtain ⟨o_39, o_40, o_41, o_42⟩ := uZ
        obtain ⟨hP1, hK1, hD1⟩ := hB
        rw [ht] at hP1
        obtain ⟨hP, hD⟩ := va_join (wr := []) (w1 := [(ob, .inr (3, [.ref oba, .ref ob_1])), (oba, .inr (1, [.ref oba_0, .int o_39, .int o_40])), (oba_0, .inl (k 0, 8, .inl o_41)), (ob_1, .inl (k 2, 1000, .inr (.inl o_42))), (tn, .inr (10, [.int tnv0, .int tnv1, .int tnv2, .ref tn_3, .ref tn_4, .ref tn_5, .ref tn_6, .int tnv7, .int tnv8, .ref tn_9, .ref tn_10, .int tnv11, .ref tn_12, .ref tn_13, .ref tn_14, .ref tn_15, .int tnv16, .ref tn_17, .ref tn_18, .ref tnt])), (tn_3, .inl (k 0, 10, .inl tng3)), (tn_4, .inl (k 0, 10, .inl tng4)), (tn_5, .inl (k 0, 10, .inl tng5)), (tn_6, .inl (k 0, 10, .inl tng6)), (tn_9, .inl (k 0, 4, .inl tng9)), (tn_10, .inl (k 0, 4, .inl tng10))]) hP hD [0, 3, 4, 1, 5, 6, 7, 8, 2, 9, 10] [] rfl rfl (by decide) (by decide) hk1 hFc hP1 hD1
        clear hK1 hP1 hD1 hPc hDc hFc
        clear hk1 hz1 ht hvm
        have hP : va_P D vwCl [(ob, .inr (3, [.ref oba, .ref ob_1])), (oba, .inr (1, [.ref oba_0, .int o_39, .int o_40])), (oba_0, .inl (k 0, 8, .inl o_41)), (ob_1, .inl (k 2, 1000, .inr (.inl o_42))), (tn, .inr (10, [.int tnv0, .int tnv1, .int tnv2, .ref tn_3, .ref tn_4, .ref tn_5, .ref tn_6, .int tnv7, .int tnv8, .ref tn_9, .ref tn_10, .int tnv11, .ref tn_12, .ref tn_13, .ref tn_14, .ref tn_15, .int tnv16, .ref tn_17, .ref tn_18, .ref tnt])), (tn_3, .inl (k 0, 10, .inl tng3)), (tn_4, .inl (k 0, 10, .inl tng4)), (tn_5, .inl (k 0, 10, .inl tng5)), (tn_6, .inl (k 0, 10, .inl tng6)), (tn_9, .inl (k 0, 4, .inl tng9)), (tn_10, .inl (k 0, 4, .inl tng10))] H1 := hP
        have hD : va_D A [(ob, .inr (3, [.ref oba, .ref ob_1])), (oba, .inr (1, [.ref oba_0, .int o_39, .int o_40])), (oba_0, .inl (k 0, 8, .inl o_41)), (ob_1, .inl (k 2, 1000, .inr (.inl o_42))), (tn, .inr (10, [.int tnv0, .int tnv1, .int tnv2, .ref tn_3, .ref tn_4, .ref tn_5, .ref tn_6, .int tnv7, .int tnv8, .ref tn_9, .ref tn_10, .int tnv11, .ref tn_12, .ref tn_13, .ref tn_14, .ref tn_15, .int tnv16, .ref tn_17, .ref tn_18, .ref tnt])), (tn_3, .inl (k 0, 10, .inl tng3)), (tn_4, .inl (k 0, 10, .inl tng4)), (tn_5, .inl (k 0, 10, .inl tng5)), (tn_6, .inl (k 0, 10, .inl tng6)), (tn_9, .inl (k 0, 4, .inl tng9)), (tn_10, .inl (k 0, 4, .inl tng10))] := hD
        generalize H1 = H at hP hS ⊢
        have hw_43 : (PR 8 1 0 0 1000000 o_41) := hw
        have hw_44 := hw_43
        clear hw
        refine lv_aload_n hx hb dX3_weighLanes_138 rfl (lv_at hl 5 rfl) ?_
        refine lv_aload_n hx hb dX3_weighLanes_139 rfl (lv_at hl 6 rfl) ?_
        refine lv_iload_n hx hb dX3_weighLanes_140 rfl (lv_at hl 7 rfl) ?_
        refine lv_iload_n hx hb dX3_weighLanes_141 rfl (lv_at hl 8 rfl) ?_
        refine lv_iload hx hb dX3_weighLanes_142 (lv_at hl 1 rfl) ?_
        refine lv_ior hx hb dX3_weighLanes_144 ?_
        refine lv_topi (fun x_45 ex_45 => ?_)
        obtain rfl : x_33 = x_45 := ex_33.trans ex_45.symm
        refine lv_iload hx hb dX3_weighLanes_145 (lv_at hl 9 rfl) ?_
        refine lv_iload hx hb dX3_weighLanes_147 (lv_at hl 1 rfl) ?_
        refine lv_ior hx hb dX3_weighLanes_149 ?_
        refine lv_topi (fun x_46 ex_46 => ?_)
        have zrp3 := z_rng p3
        refine lv_lload hx hb dX3_weighLanes_150 (lv_at hl 0 rfl) ?_
        refine lv_aload_n hx hb dX3_weighLanes_152 rfl (lv_at hl 6 rfl) ?_
        refine va_get (D := D) (ci := 10) (v := .ref tn_6) (C := RX10) (T := TX10) (N := 20) hx hb hts iT_X10 hown hK hP 4 rfl rfl 6 (by decide) (hts _ tw_1_98) (fun _ h9 => h9) rfl dX3_weighLanes_153 ?_
        refine lv_iload hx hb dX3_weighLanes_156 (lv_at hl 2 rfl) ?_
        refine va_iald hx hb hK hP 8 0 rfl rfl (z_in (by omega) (by omega)) dX3_weighLanes_158 ?_
        refine lv_topi (fun x_47 ex_47 => ?_)
        obtain rfl : x_34 = x_47 := ex_34.trans ex_47.symm
        refine lv_i2l (v := x_34.toInt64) hx hb dX3_weighLanes_159 rfl ?_
        refine lv_lmul hx hb dX3_weighLanes_160 ?_
        refine lv_topl (fun x_48 ex_48 => ?_)
        refine lv_iload hx hb dX3_weighLanes_161 (lv_at hl 11 rfl) ?_
        refine lv_iconst (v := 1) hx hb dX3_weighLanes_163 (by decide) ?_
        refine lv_iadd hx hb dX3_weighLanes_164 ?_
        refine lv_topi (fun x_49 ex_49 => ?_)
        obtain rfl : x_49 = 7 := ex_49.trans (by decide)
        have hPc := hP.sub (ws' := [(ob, .inr (3, [.ref oba, .ref ob_1])), (oba, .inr (1, [.ref oba_0, .int o_39, .int o_40])), (oba_0, .inl (k 0, 8, .inl o_41)), (ob_1, .inl (k 2, 1000, .inr (.inl o_42))), (tn, .inr (10, [.int tnv0, .int tnv1, .int tnv2, .ref tn_3, .ref tn_4, .ref tn_5, .ref tn_6, .int tnv7, .int tnv8, .ref tn_9, .ref tn_10, .int tnv11, .ref tn_12, .ref tn_13, .ref tn_14, .ref tn_15, .int tnv16, .ref tn_17, .ref tn_18, .ref tnt])), (tn_3, .inl (k 0, 10, .inl tng3)), (tn_4, .inl (k 0, 10, .inl tng4)), (tn_5, .inl (k 0, 10, .inl tng5)), (tn_6, .inl (k 0, 10, .inl tng6)), (tn_9, .inl (k 0, 4, .inl tng9)), (tn_10, .inl (k 0, 4, .inl tng10))]) [0, 1, 2, 3, 4, 5, 6, 7, 8, 9, 10] rfl
        have hDc := hD.sub (ws' := [(ob, .inr (3, [.ref oba, .ref ob_1])), (oba, .inr (1, [.ref oba_0, .int o_39, .int o_40])), (oba_0, .inl (k 0, 8, .inl o_41)), (ob_1, .inl (k 2, 1000, .inr (.inl o_42))), (tn, .inr (10, [.int tnv0, .int tnv1, .int tnv2, .ref tn_3, .ref tn_4, .ref tn_5, .ref tn_6, .int tnv7, .int tnv8, .ref tn_9, .ref tn_10, .int tnv11, .ref tn_12, .ref tn_13, .ref tn_14, .ref tn_15, .int tnv16, .ref tn_17, .ref tn_18, .ref tnt])), (tn_3, .inl (k 0, 10, .inl tng3)), (tn_4, .inl (k 0, 10, .inl tng4)), (tn_5, .inl (k 0, 10, .inl tng5)), (tn_6, .inl (k 0, 10, .inl tng6)), (tn_9, .inl (k 0, 4, .inl tng9)), (tn_10, .inl (k 0, 4, .inl tng10))]) [0, 1, 2, 3, 4, 5, 6, 7, 8, 9, 10] (by decide) rfl
        have hFc := va_free (wc := [(ob, .inr (3, [.ref oba, .ref ob_1])), (oba, .inr (1, [.ref oba_0, .int o_39, .int o_40])), (oba_0, .inl (k 0, 8, .inl o_41)), (ob_1, .inl (k 2, 1000, .inr (.inl o_42))), (tn, .inr (10, [.int tnv0, .int tnv1, .int tnv2, .ref tn_3, .ref tn_4, .ref tn_5, .ref tn_6, .int tnv7, .int tnv8, .ref tn_9, .ref tn_10, .int tnv11, .ref tn_12, .ref tn_13, .ref tn_14, .ref tn_15, .int tnv16, .ref tn_17, .ref tn_18, .ref tnt])), (tn_3, .inl (k 0, 10, .inl tng3)), (tn_4, .inl (k 0, 10, .inl tng4)), (tn_5, .inl (k 0, 10, .inl tng5)), (tn_6, .inl (k 0, 10, .inl tng6)), (tn_9, .inl (k 0, 4, .inl tng9)), (tn_10, .inl (k 0, 4, .inl tng10))]) hD hS hA [0, 1, 2, 3, 4, 5, 6, 7, 8, 9, 10] rfl
        refine va_callv (va_runV (C := RX3) (As := [.ref tn, .int p1, .int x_33, .int x_46, .long x_48, .int 7]) (rest := []) ⟨hx, hb, hml, hown, hts⟩ (c_X3_weighLanes_3 l D k ob tn p1 x_33 x_46 x_48 oba ob_1 oba_0 o_39 o_40 o_41 o_42 tnv0 tnv1 tnv2 tn_3 tn_4 tn_5 tn_6 tnv7 tnv8 tn_9 tn_10 tnv11 tn_12 tn_13 tn_14 tn_15 tnv16 tn_17 tn_18 tnt tng3 tng4 tng5 tng6 tng9 tng10 H.size (show 0 ≤ p1.toInt ∧ p1.toInt ≤ 7 from by omega) hw_44 (show 0 ≤ tnv0.toInt ∧ tnv0.toInt ≤ 8 from by omega) (show 0 ≤ tnv2.toInt ∧ tnv2.toInt ≤ 10 from by omega) (show 0 ≤ tnv8.toInt ∧ tnv8.toInt ≤ 4 from by omega) (show 0 ≤ tnv11.toInt ∧ tnv11.toInt ≤ 6 from by omega) (show 0 ≤ tnv16.toInt ∧ tnv16.toInt ≤ 2 from by omega) hp_tng3_0 hp_tng4_0 hp_tng5_0 hp_tng6_0 hp_tng9_0 hp_tng10_0) (cwV 6 hts (gV tw_5_151 tw_5_153 tw_p_34 tw_1_12 tw_5_154) rfl rfl rfl hdV_X3_weighLanes ⟨Nat.le_of_ble_eq_true rfl, Nat.le_of_ble_eq_true rfl⟩) (cz_V hK hPc hDc hN (ci := 3) (q0 := 0) rfl rfl [.ref tn, .int p1, .int x_33, .int x_46, .long x_48, .int 7]) rfl rfl hl.1 rfl (lv_room (Nat.le_of_ble_eq_true rfl)) dX3_weighLanes_165 ⟨Nat.le_of_ble_eq_true rfl, Nat.le_of_ble_eq_true rfl⟩) hS (fun q _ h => hFc q h) hFc (fun uZ tZ H1 locs ht hvm hw hB hz1 hk1 hS => ?_)
        obtain ⟨o_51, o_52, o_53, o_54⟩ := uZ
        obtain ⟨hP1, hK1, hD1⟩ := hB
        rw [ht] at hP1
        obtain ⟨hP, hD⟩ := va_join (wr := []) (w1 := [(ob, .inr (3, [.ref oba, .ref ob_1])), (oba, .inr (1, [.ref oba_0, .int o_51, .int o_52])), (oba_0, .inl (k 0, 8, .inl o_53)), (ob_1, .inl (k 2, 1000, .inr (.inl o_54))), (tn, .inr (10, [.int tnv0, .int tnv1, .int tnv2, .ref tn_3, .ref tn_4, .ref tn_5, .ref tn_6, .int tnv7, .int tnv8, .ref tn_9, .ref tn_10, .int tnv11, .ref tn_12, .ref tn_13, .ref tn_14, .ref tn_15, .int tnv16, .ref tn_17, .ref tn_18, .ref tnt])), (tn_3, .inl (k 0, 10, .inl tng3)), (tn_4, .inl (k 0, 10, .inl tng4)), (tn_5, .inl (k 0, 10, .inl tng5)), (tn_6, .inl (k 0, 10, .inl tng6)), (tn_9, .inl (k 0, 4, .inl tng9)), (tn_10, .inl (k 0, 4, .inl tng10))]) hP hD [0, 1, 2, 3, 4, 5, 6, 7, 8, 9, 10] [] rfl rfl (by decide) (by decide) hk1 hFc hP1 hD1
        clear hK1 hP1 hD1 hPc hDc hFc
        clear hk1 hz1 ht hvm
        have hP : va_P D vwCl [(ob, .inr (3, [.ref oba, .ref ob_1])), (oba, .inr (1, [.ref oba_0, .int o_51, .int o_52])), (oba_0, .inl (k 0, 8, .inl o_53)), (ob_1, .inl (k 2, 1000, .inr (.inl o_54))), (tn, .inr (10, [.int tnv0, .int tnv1, .int tnv2, .ref tn_3, .ref tn_4, .ref tn_5, .ref tn_6, .int tnv7, .int tnv8, .ref tn_9, .ref tn_10, .int tnv11, .ref tn_12, .ref tn_13, .ref tn_14, .ref tn_15, .int tnv16, .ref tn_17, .ref tn_18, .ref tnt])), (tn_3, .inl (k 0, 10, .inl tng3)), (tn_4, .inl (k 0, 10, .inl tng4)), (tn_5, .inl (k 0, 10, .inl tng5)), (tn_6, .inl (k 0, 10, .inl tng6)), (tn_9, .inl (k 0, 4, .inl tng9)), (tn_10, .inl (k 0, 4, .inl tng10))] H1 := hP
        have hD : va_D A [(ob, .inr (3, [.ref oba, .ref ob_1])), (oba, .inr (1, [.ref oba_0, .int o_51, .int o_52])), (oba_0, .inl (k 0, 8, .inl o_53)), (ob_1, .inl (k 2, 1000, .inr (.inl o_54))), (tn, .inr (10, [.int tnv0, .int tnv1, .int tnv2, .ref tn_3, .ref tn_4, .ref tn_5, .ref tn_6, .int tnv7, .int tnv8, .ref tn_9, .ref tn_10, .int tnv11, .ref tn_12, .ref tn_13, .ref tn_14, .ref tn_15, .int tnv16, .ref tn_17, .ref tn_18, .ref tnt])), (tn_3, .inl (k 0, 10, .inl tng3)), (tn_4, .inl (k 0, 10, .inl tng4)), (tn_5, .inl (k 0, 10, .inl tng5)), (tn_6, .inl (k 0, 10, .inl tng6)), (tn_9, .inl (k 0, 4, .inl tng9)), (tn_10, .inl (k 0, 4, .inl tng10))] := hD
        generalize H1 = H at hP hS ⊢
        have hw_55 : (PR 8 1 0 0 1000000 o_53) := hw
        have hw_56 := hw_55
        clear hw
        have hP9 := hP.sub (ws' := [(ob, .inr (3, [.ref oba, .ref ob_1])), (oba, .inr (1, [.ref oba_0, .int o_51, .int o_52])), (oba_0, .inl (k 0, 8, .inl o_53)), (ob_1, .inl (k 2, 1000, .inr (.inl o_54))), (tn, .inr (10, [.int tnv0, .int tnv1, .int tnv2, .ref tn_3, .ref tn_4, .ref tn_5, .ref tn_6, .int tnv7, .int tnv8, .ref tn_9, .ref tn_10, .int tnv11, .ref tn_12, .ref tn_13, .ref tn_14, .ref tn_15, .int tnv16, .ref tn_17, .ref tn_18, .ref tnt])), (tn_3, .inl (k 0, 10, .inl tng3)), (tn_4, .inl (k 0, 10, .inl tng4)), (tn_5, .inl (k 0, 10, .inl tng5)), (tn_6, .inl (k 0, 10, .inl tng6)), (tn_9, .inl (k 0, 4, .inl tng9)), (tn_10, .inl (k 0, 4, .inl tng10))]) [0, 1, 2, 3, 4, 5, 6, 7, 8, 9, 10] rfl
        have hD9 := hD.sub (ws' := [(ob, .inr (3, [.ref oba, .ref ob_1])), (oba, .inr (1, [.ref oba_0, .int o_51, .int o_52])), (oba_0, .inl (k 0, 8, .inl o_53)), (ob_1, .inl (k 2, 1000, .inr (.inl o_54))), (tn, .inr (10, [.int tnv0, .int tnv1, .int tnv2, .ref tn_3, .ref tn_4, .ref tn_5, .ref tn_6, .int tnv7, .int tnv8, .ref tn_9, .ref tn_10, .int tnv11, .ref tn_12, .ref tn_13, .ref tn_14, .ref tn_15, .int tnv16, .ref tn_17, .ref tn_18, .ref tnt])), (tn_3, .inl (k 0, 10, .inl tng3)), (tn_4, .inl (k 0, 10, .inl tng4)), (tn_5, .inl (k 0, 10, .inl tng5)), (tn_6, .inl (k 0, 10, .inl tng6)), (tn_9, .inl (k 0, 4, .inl tng9)), (tn_10, .inl (k 0, 4, .inl tng10))]) [0, 1, 2, 3, 4, 5, 6, 7, 8, 9, 10] (by decide) rfl
        exact W.vret hx hb hr (fun tZ ht hW => ⟨⟨(o_51, o_52, o_53, o_54), rfl, hw_56, by rw [ht]; exact hP9, va_K.moved hW.alike hK, hD9⟩, hS.F ht⟩) hS.2.2 dX3_weighLanes_168
  · skip
    have zh_11 : 1000 ≤ x_10.toInt := z_nlt h_11
    have hP9 := hP.sub (ws' := [(ob, .inr (3, [.ref oba, .ref ob_1])), (oba, .inr (1, [.ref oba_0, .int o_5, .int o_6])), (oba_0, .inl (k 0, 8, .inl o_7)), (ob_1, .inl (k 2, 1000, .inr (.inl obg1))), (tn, .inr (10, [.int tnv0, .int tnv1, .int tnv2, .ref tn_3, .ref tn_4, .ref tn_5, .ref tn_6, .int tnv7, .int tnv8, .ref tn_9, .ref tn_10, .int tnv11, .ref tn_12, .ref tn_13, .ref tn_14, .ref tn_15, .int tnv16, .ref tn_17, .ref tn_18, .ref tnt])), (tn_3, .inl (k 0, 10, .inl tng3)), (tn_4, .inl (k 0, 10, .inl tng4)), (tn_5, .inl (k 0, 10, .inl tng5)), (tn_6, .inl (k 0, 10, .inl tng6)), (tn_9, .inl (k 0, 4, .inl tng9)), (tn_10, .inl (k 0, 4, .inl tng10))]) [0, 3, 4, 1, 5, 6, 7, 8, 2, 9, 10] rfl
    have hD9 := hD.sub (ws' := [(ob, .inr (3, [.ref oba, .ref ob_1])), (oba, .inr (1, [.ref oba_0, .int o_5, .int o_6])), (oba_0, .inl (k 0, 8, .inl o_7)), (ob_1, .inl (k 2, 1000, .inr (.inl obg1))), (tn, .inr (10, [.int tnv0, .int tnv1, .int tnv2, .ref tn_3, .ref tn_4, .ref tn_5, .ref tn_6, .int tnv7, .int tnv8, .ref tn_9, .ref tn_10, .int tnv11, .ref tn_12, .ref tn_13, .ref tn_14, .ref tn_15, .int tnv16, .ref tn_17, .ref tn_18, .ref tnt])), (tn_3, .inl (k 0, 10, .inl tng3)), (tn_4, .inl (k 0, 10, .inl tng4)), (tn_5, .inl (k 0, 10, .inl tng5)), (tn_6, .inl (k 0, 10, .inl tng6)), (tn_9, .inl (k 0, 4, .inl tng9)), (tn_10, .inl (k 0, 4, .inl tng10))]) [0, 3, 4, 1, 5, 6, 7, 8, 2, 9, 10] (by decide) rfl
    exact W.vret hx hb hr (fun tZ ht hW => ⟨⟨(o_5, o_6, o_7, obg1), rfl, hw_9, by rw [ht]; exact hP9, va_K.moved hW.alike hK, hD9⟩, hS.F ht⟩) hS.2.2 dX3_weighLanes_33
set_option maxHeartbeats 4000000 in
set_option maxRecDepth 100000 in
theorem c_X3_weighLanes_5 (l : Launch) (D : va_G) (k : Nat → ClassId) (ob : Nat) (tn : Nat) (p1 : Int32) (p2 : Int32) (p3 : Int32) (p4 : Int64) (oba : Nat) (ob_1 : Nat) (oba_0 : Nat) (obav1 : Int32) (obav2 : Int32) (obag0 : Nat → Int32) (obg1 : Nat → Int64) (tnv0 : Int32) (tnv1 : Int32) (tnv2 : Int32) (tn_3 : Nat) (tn_4 : Nat) (tn_5 : Nat) (tn_6 : Nat) (tnv7 : Int32) (tnv8 : Int32) (tn_9 : Nat) (tn_10 : Nat) (tnv11 : Int32) (tn_12 : Nat) (tn_13 : Nat) (tn_14 : Nat) (tn_15 : Nat) (tnv16 : Int32) (tn_17 : Nat) (tn_18 : Nat) (tnt : Nat) (tng3 : Nat → Int32) (tng4 : Nat → Int32) (tng5 : Nat → Int32) (tng6 : Nat → Int32) (tng9 : Nat → Int32) (tng10 : Nat → Int32) (sz : Nat) (h_p1 : 0 ≤ p1.toInt ∧ p1.toInt ≤ 7) (hp_obag0_0 : PR 8 1 0 0 1000000 obag0) (h_tnv0 : 0 ≤ tnv0.toInt ∧ tnv0.toInt ≤ 8) (h_tnv2 : 0 ≤ tnv2.toInt ∧ tnv2.toInt ≤ 10) (h_tnv8 : 0 ≤ tnv8.toInt ∧ tnv8.toInt ≤ 4) (h_tnv11 : 0 ≤ tnv11.toInt ∧ tnv11.toInt ≤ 6) (h_tnv16 : 0 ≤ tnv16.toInt ∧ tnv16.toInt ≤ 2) (hp_tng3_0 : PR 10 1 0 0 7 tng3) (hp_tng4_0 : PR 10 1 0 0 7 tng4) (hp_tng5_0 : PR 10 1 0 0 60 tng5) (hp_tng6_0 : PR 10 1 0 0 10 tng6) (hp_tng9_0 : PR 4 1 0 0 7 tng9) (hp_tng10_0 : PR 4 1 0 0 99 tng10) : Met l yX3_weighLanes (ww yX3_weighLanes cX3_weighLanes 14 none) ({ frames := 9, cells := 0, slots := 0, locals := 265 }) (Pre0 D k [(ob, .inr (3, [.ref oba, .ref ob_1])), (oba, .inr (1, [.ref oba_0, .int obav1, .int obav2])), (oba_0, .inl (k 0, 8, .inl obag0)), (ob_1, .inl (k 2, 1000, .inr (.inl obg1))), (tn, .inr (10, [.int tnv0, .int tnv1, .int tnv2, .ref tn_3, .ref tn_4, .ref tn_5, .ref tn_6, .int tnv7, .int tnv8, .ref tn_9, .ref tn_10, .int tnv11, .ref tn_12, .ref tn_13, .ref tn_14, .ref tn_15, .int tnv16, .ref tn_17, .ref tn_18, .ref tnt])), (tn_3, .inl (k 0, 10, .inl tng3)), (tn_4, .inl (k 0, 10, .inl tng4)), (tn_5, .inl (k 0, 10, .inl tng5)), (tn_6, .inl (k 0, 10, .inl tng6)), (tn_9, .inl (k 0, 4, .inl tng9)), (tn_10, .inl (k 0, 4, .inl tng10))] sz [.ref ob, .ref tn, .int p1, .int p2, .int p3, .long p4, .int 5]) (va_Qv (fun (u : Int32 × Int32 × (Nat → Int32) × (Nat → Int64)) => match u with | (obav1z, obav2z, obag0z, obg1z) => (PR 8 1 0 0 1000000 obag0z)) (fun (u : Int32 × Int32 × (Nat → Int32) × (Nat → Int64)) tZ => match u with | (obav1z, obav2z, obag0z, obg1z) => Bw D k (va_A [(ob, .inr (3, [.ref oba, .ref ob_1])), (oba, .inr (1, [.ref oba_0, .int obav1, .int obav2])), (oba_0, .inl (k 0, 8, .inl obag0)), (ob_1, .inl (k 2, 1000, .inr (.inl obg1))), (tn, .inr (10, [.int tnv0, .int tnv1, .int tnv2, .ref tn_3, .ref tn_4, .ref tn_5, .ref tn_6, .int tnv7, .int tnv8, .ref tn_9, .ref tn_10, .int tnv11, .ref tn_12, .ref tn_13, .ref tn_14, .ref tn_15, .int tnv16, .ref tn_17, .ref tn_18, .ref tnt])), (tn_3, .inl (k 0, 10, .inl tng3)), (tn_4, .inl (k 0, 10, .inl tng4)), (tn_5, .inl (k 0, 10, .inl tng5)), (tn_6, .inl (k 0, 10, .inl tng6)), (tn_9, .inl (k 0, 4, .inl tng9)), (tn_10, .inl (k 0, 4, .inl tng10))] sz) [(ob, .inr (3, [.ref oba, .ref ob_1])), (oba, .inr (1, [.ref oba_0, .int obav1z, .int obav2z])), (oba_0, .inl (k 0, 8, .inl obag0z)), (ob_1, .inl (k 2, 1000, .inr (.inl obg1z))), (tn, .inr (10, [.int tnv0, .int tnv1, .int tnv2, .ref tn_3, .ref tn_4, .ref tn_5, .ref tn_6, .int tnv7, .int tnv8, .ref tn_9, .ref tn_10, .int tnv11, .ref tn_12, .ref tn_13, .ref tn_14, .ref tn_15, .int tnv16, .ref tn_17, .ref tn_18, .ref tnt])), (tn_3, .inl (k 0, 10, .inl tng3)), (tn_4, .inl (k 0, 10, .inl tng4)), (tn_5, .inl (k 0, 10, .inl tng5)), (tn_6, .inl (k 0, 10, .inl tng6)), (tn_9, .inl (k 0, 4, .inl tng9)), (tn_10, .inl (k 0, 4, .inl tng10))] tZ) (va_A [(ob, .inr (3, [.ref oba, .ref ob_1])), (oba, .inr (1, [.ref oba_0, .int obav1, .int obav2])), (oba_0, .inl (k 0, 8, .inl obag0)), (ob_1, .inl (k 2, 1000, .inr (.inl obg1))), (tn, .inr (10, [.int tnv0, .int tnv1, .int tnv2, .ref tn_3, .ref tn_4, .ref tn_5, .ref tn_6, .int tnv7, .int tnv8, .ref tn_9, .ref tn_10, .int tnv11, .ref tn_12, .ref tn_13, .ref tn_14, .ref tn_15, .int tnv16, .ref tn_17, .ref tn_18, .ref tnt])), (tn_3, .inl (k 0, 10, .inl tng3)), (tn_4, .inl (k 0, 10, .inl tng4)), (tn_5, .inl (k 0, 10, .inl tng5)), (tn_6, .inl (k 0, 10, .inl tng6)), (tn_9, .inl (k 0, 4, .inl tng9)), (tn_10, .inl (k 0, 4, .inl tng10))] sz)) 0 0 (va_A [(ob, .inr (3, [.ref oba, .ref ob_1])), (oba, .inr (1, [.ref oba_0, .int obav1, .int obav2])), (oba_0, .inl (k 0, 8, .inl obag0)), (ob_1, .inl (k 2, 1000, .inr (.inl obg1))), (tn, .inr (10, [.int tnv0, .int tnv1, .int tnv2, .ref tn_3, .ref tn_4, .ref tn_5, .ref tn_6, .int tnv7, .int tnv8, .ref tn_9, .ref tn_10, .int tnv11, .ref tn_12, .ref tn_13, .ref tn_14, .ref tn_15, .int tnv16, .ref tn_17, .ref tn_18, .ref tnt])), (tn_3, .inl (k 0, 10, .inl tng3)), (tn_4, .inl (k 0, 10, .inl tng4)), (tn_5, .inl (k 0, 10, .inl tng5)), (tn_6, .inl (k 0, 10, .inl tng6)), (tn_9, .inl (k 0, 4, .inl tng9)), (tn_10, .inl (k 0, 4, .inl tng10))] sz) := by
  refine Met.ofW (cc := cX3_weighLanes) (maxL := 14) (ret := none) (by decide +kernel) rfl ?_
  intro p e s m args below meth c s₁ B hml hv
  obtain ⟨rfl, hsz, hP, hK, hD0, hN⟩ := hv
  have hx := B.exec
  have hb := B.bytes
  have hr := B.returns
  have hts : ∀ w ∈ TT, w.before _ s = true := fun w h => atoms_spec (ws := ww yX3_weighLanes cX3_weighLanes 14 none) B.pre w (List.mem_cons_of_mem _ h)
  have hown : s.vm.findClass RX3 = some m.cls := findClass_of_methodNamed B.named
  have hlocks := B.notSynchronized
  subst hsz
  have hD := hD0.self (sz := s.heap.size)
  generalize hAe : va_A [(ob, .inr (3, [.ref oba, .ref ob_1])), (oba, .inr (1, [.ref oba_0, .int obav1, .int obav2])), (oba_0, .inl (k 0, 8, .inl obag0)), (ob_1, .inl (k 2, 1000, .inr (.inl obg1))), (tn, .inr (10, [.int tnv0, .int tnv1, .int tnv2, .ref tn_3, .ref tn_4, .ref tn_5, .ref tn_6, .int tnv7, .int tnv8, .ref tn_9, .ref tn_10, .int tnv11, .ref tn_12, .ref tn_13, .ref tn_14, .ref tn_15, .int tnv16, .ref tn_17, .ref tn_18, .ref tnt])), (tn_3, .inl (k 0, 10, .inl tng3)), (tn_4, .inl (k 0, 10, .inl tng4)), (tn_5, .inl (k 0, 10, .inl tng5)), (tn_6, .inl (k 0, 10, .inl tng6)), (tn_9, .inl (k 0, 4, .inl tng9)), (tn_10, .inl (k 0, 4, .inl tng10))] s.heap.size = A at hD ⊢
  have hA : ∀ q : Nat, s.heap.size ≤ q → A q := fun q h => by rw [← hAe]; exact Or.inr h
  have hS : va_S A s.heap s.heap [] := va_S.rf
  have hl := lv_entry ([.ref ob, .ref tn, .int p1, .int p2, .int p3, .long p4, .int 5]) (n := 14) (Nat.le_of_ble_eq_true rfl)
  rw [lg_entry_eq]
  generalize (lg_sl ([.ref ob, .ref tn, .int p1, .int p2, .int p3, .long p4, .int 5]) ++ List.replicate (14 - (lg_sl ([.ref ob, .ref tn, .int p1, .int p2, .int p3, .long p4, .int 5])).length) Slot.unset).toArray = ls at hl ⊢
  have hl : lv_has ls 14 [(0, .ref ob), (1, .ref tn), (2, .int p1), (3, .int p2), (4, .int p3), (5, .long p4), (7, .int 5)] := hl
  refine lv_aload_n hx hb dX3_weighLanes_0 rfl (lv_at hl 0 rfl) ?_
  refine va_get (D := D) (ci := 3) (v := .ref oba) (C := RX3) (T := TX3) (N := 2) hx hb hts iT_X3 hown hK hP 0 rfl rfl 0 (by decide) (hts _ tw_2_163) (fun _ h9 => h9) rfl dX3_weighLanes_1 ?_
  refine lv_aload_n hx hb dX3_weighLanes_4 rfl (lv_at hl 1 rfl) ?_
  refine lv_aload_n hx hb dX3_weighLanes_5 rfl (lv_at hl 1 rfl) ?_
  have hPc := hP.sub (ws' := [(tn, .inr (10, [.int tnv0, .int tnv1, .int tnv2, .ref tn_3, .ref tn_4, .ref tn_5, .ref tn_6, .int tnv7, .int tnv8, .ref tn_9, .ref tn_10, .int tnv11, .ref tn_12, .ref tn_13, .ref tn_14, .ref tn_15, .int tnv16, .ref tn_17, .ref tn_18, .ref tnt]))]) [4] rfl
  have hDc := hD.sub (ws' := [(tn, .inr (10, [.int tnv0, .int tnv1, .int tnv2, .ref tn_3, .ref tn_4, .ref tn_5, .ref tn_6, .int tnv7, .int tnv8, .ref tn_9, .ref tn_10, .int tnv11, .ref tn_12, .ref tn_13, .ref tn_14, .ref tn_15, .int tnv16, .ref tn_17, .ref tn_18, .ref tnt]))]) [4] (by decide) rfl
  have hFc := va_free (wc := [(tn, .inr (10, [.int tnv0, .int tnv1, .int tnv2, .ref tn_3, .ref tn_4, .ref tn_5, .ref tn_6, .int tnv7, .int tnv8, .ref tn_9, .ref tn_10, .int tnv11, .ref tn_12, .ref tn_13, .ref tn_14, .ref tn_15, .int tnv16, .ref tn_17, .ref tn_18, .ref tnt]))]) hD hS hA [4] rfl
  refine va_calli (va_runV (C := RX10) (As := []) (rest := [.ref tn, .ref oba]) ⟨hx, hb, hml, hown, hts⟩ (c_X10_openLanes l D k tn tnv0 tnv1 tnv2 tn_3 tn_4 tn_5 tn_6 tnv7 tnv8 tn_9 tn_10 tnv11 tn_12 tn_13 tn_14 tn_15 tnv16 tn_17 tn_18 tnt s.heap.size (show 0 ≤ tnv0.toInt ∧ tnv0.toInt ≤ 8 from by omega) (show 0 ≤ tnv2.toInt ∧ tnv2.toInt ≤ 10 from by omega) (show 0 ≤ tnv8.toInt ∧ tnv8.toInt ≤ 4 from by omega) (show 0 ≤ tnv11.toInt ∧ tnv11.toInt ≤ 6 from by omega) (show 0 ≤ tnv16.toInt ∧ tnv16.toInt ≤ 2 from by omega)) (cwV 0 hts (gV tw_5_155 tw_3_180 tw_3_181 tw_1_3 tw_3_182) rfl rfl rfl hdV_X10_openLanes ⟨Nat.le_of_ble_eq_true rfl, Nat.le_of_ble_eq_true rfl⟩) (cz_V hK hPc hDc hN (ci := 10) (q0 := 0) rfl rfl []) rfl rfl hl.1 rfl (lv_room (Nat.le_of_ble_eq_true rfl)) dX3_weighLanes_6 ⟨Nat.le_of_ble_eq_true rfl, Nat.le_of_ble_eq_true rfl⟩) hS (fun q _ h => hFc q h) hFc (fun r_1 uZ tZ H1 locs ht hvm hw hB hz1 hk1 hS => ?_)
  obtain ⟨hP1, hK1, hD1⟩ := hB
  rw [ht] at hP1
  obtain ⟨hP, hD⟩ := va_join (wr := [(ob, .inr (3, [.ref oba, .ref ob_1])), (oba, .inr (1, [.ref oba_0, .int obav1, .int obav2])), (oba_0, .inl (k 0, 8, .inl obag0)), (ob_1, .inl (k 2, 1000, .inr (.inl obg1))), (tn_3, .inl (k 0, 10, .inl tng3)), (tn_4, .inl (k 0, 10, .inl tng4)), (tn_5, .inl (k 0, 10, .inl tng5)), (tn_6, .inl (k 0, 10, .inl tng6)), (tn_9, .inl (k 0, 4, .inl tng9)), (tn_10, .inl (k 0, 4, .inl tng10))]) (w1 := [(tn, .inr (10, [.int tnv0, .int tnv1, .int tnv2, .ref tn_3, .ref tn_4, .ref tn_5, .ref tn_6, .int tnv7, .int tnv8, .ref tn_9, .ref tn_10, .int tnv11, .ref tn_12, .ref tn_13, .ref tn_14, .ref tn_15, .int tnv16, .ref tn_17, .ref tn_18, .ref tnt]))]) hP hD [4] [0, 1, 2, 3, 5, 6, 7, 8, 9, 10] rfl rfl (by decide) (by decide) hk1 hFc hP1 hD1
  clear hK1 hP1 hD1 hPc hDc hFc
  clear hk1 hz1 ht hvm
  have hP : va_P D vwCl [(ob, .inr (3, [.ref oba, .ref ob_1])), (oba, .inr (1, [.ref oba_0, .int obav1, .int obav2])), (oba_0, .inl (k 0, 8, .inl obag0)), (ob_1, .inl (k 2, 1000, .inr (.inl obg1))), (tn_3, .inl (k 0, 10, .inl tng3)), (tn_4, .inl (k 0, 10, .inl tng4)), (tn_5, .inl (k 0, 10, .inl tng5)), (tn_6, .inl (k 0, 10, .inl tng6)), (tn_9, .inl (k 0, 4, .inl tng9)), (tn_10, .inl (k 0, 4, .inl tng10)), (tn, .inr (10, [.int tnv0, .int tnv1, .int tnv2, .ref tn_3, .ref tn_4, .ref tn_5, .ref tn_6, .int tnv7, .int tnv8, .ref tn_9, .ref tn_10, .int tnv11, .ref tn_12, .ref tn_13, .ref tn_14, .ref tn_15, .int tnv16, .ref tn_17, .ref tn_18, .ref tnt]))] H1 := hP
  have hD : va_D A [(ob, .inr (3, [.ref oba, .ref ob_1])), (oba, .inr (1, [.ref oba_0, .int obav1, .int obav2])), (oba_0, .inl (k 0, 8, .inl obag0)), (ob_1, .inl (k 2, 1000, .inr (.inl obg1))), (tn_3, .inl (k 0, 10, .inl tng3)), (tn_4, .inl (k 0, 10, .inl tng4)), (tn_5, .inl (k 0, 10, .inl tng5)), (tn_6, .inl (k 0, 10, .inl tng6)), (tn_9, .inl (k 0, 4, .inl tng9)), (tn_10, .inl (k 0, 4, .inl tng10)), (tn, .inr (10, [.int tnv0, .int tnv1, .int tnv2, .ref tn_3, .ref tn_4, .ref tn_5, .ref tn_6, .int tnv7, .int tnv8, .ref tn_9, .ref tn_10, .int tnv11, .ref tn_12, .ref tn_13, .ref tn_14, .ref tn_15, .int tnv16, .ref tn_17, .ref tn_18, .ref tnt]))] := hD
  generalize H1 = H at hP hS ⊢
  have hw_2 : (0 ≤ r_1.toInt ∧ r_1.toInt ≤ 1023) := hw
  have hw_3 := hw_2
  clear hw
  refine lv_iload hx hb dX3_weighLanes_9 (lv_at hl 4 rfl) ?_
  have hPc := hP.sub (ws' := [(oba, .inr (1, [.ref oba_0, .int obav1, .int obav2])), (oba_0, .inl (k 0, 8, .inl obag0)), (tn, .inr (10, [.int tnv0, .int tnv1, .int tnv2, .ref tn_3, .ref tn_4, .ref tn_5, .ref tn_6, .int tnv7, .int tnv8, .ref tn_9, .ref tn_10, .int tnv11, .ref tn_12, .ref tn_13, .ref tn_14, .ref tn_15, .int tnv16, .ref tn_17, .ref tn_18, .ref tnt])), (tn_3, .inl (k 0, 10, .inl tng3)), (tn_4, .inl (k 0, 10, .inl tng4)), (tn_5, .inl (k 0, 10, .inl tng5)), (tn_9, .inl (k 0, 4, .inl tng9)), (tn_10, .inl (k 0, 4, .inl tng10))]) [1, 2, 10, 4, 5, 6, 8, 9] rfl
  have hDc := hD.sub (ws' := [(oba, .inr (1, [.ref oba_0, .int obav1, .int obav2])), (oba_0, .inl (k 0, 8, .inl obag0)), (tn, .inr (10, [.int tnv0, .int tnv1, .int tnv2, .ref tn_3, .ref tn_4, .ref tn_5, .ref tn_6, .int tnv7, .int tnv8, .ref tn_9, .ref tn_10, .int tnv11, .ref tn_12, .ref tn_13, .ref tn_14, .ref tn_15, .int tnv16, .ref tn_17, .ref tn_18, .ref tnt])), (tn_3, .inl (k 0, 10, .inl tng3)), (tn_4, .inl (k 0, 10, .inl tng4)), (tn_5, .inl (k 0, 10, .inl tng5)), (tn_9, .inl (k 0, 4, .inl tng9)), (tn_10, .inl (k 0, 4, .inl tng10))]) [1, 2, 10, 4, 5, 6, 8, 9] (by decide) rfl
  have hFc := va_free (wc := [(oba, .inr (1, [.ref oba_0, .int obav1, .int obav2])), (oba_0, .inl (k 0, 8, .inl obag0)), (tn, .inr (10, [.int tnv0, .int tnv1, .int tnv2, .ref tn_3, .ref tn_4, .ref tn_5, .ref tn_6, .int tnv7, .int tnv8, .ref tn_9, .ref tn_10, .int tnv11, .ref tn_12, .ref tn_13, .ref tn_14, .ref tn_15, .int tnv16, .ref tn_17, .ref tn_18, .ref tnt])), (tn_3, .inl (k 0, 10, .inl tng3)), (tn_4, .inl (k 0, 10, .inl tng4)), (tn_5, .inl (k 0, 10, .inl tng5)), (tn_9, .inl (k 0, 4, .inl tng9)), (tn_10, .inl (k 0, 4, .inl tng10))]) hD hS hA [1, 2, 10, 4, 5, 6, 8, 9] rfl
  refine va_callv (va_runV (C := RX1) (As := [.ref tn, .int r_1, .int p3]) (rest := []) ⟨hx, hb, hml, hown, hts⟩ (c_X1_fall l D k oba tn r_1 p3 oba_0 obav1 obav2 obag0 tnv0 tnv1 tnv2 tn_3 tn_4 tn_5 tn_6 tnv7 tnv8 tn_9 tn_10 tnv11 tn_12 tn_13 tn_14 tn_15 tnv16 tn_17 tn_18 tnt tng3 tng4 tng5 tng9 tng10 H.size hp_obag0_0 (show 0 ≤ tnv0.toInt ∧ tnv0.toInt ≤ 8 from by omega) (show 0 ≤ tnv2.toInt ∧ tnv2.toInt ≤ 10 from by omega) (show 0 ≤ tnv8.toInt ∧ tnv8.toInt ≤ 4 from by omega) (show 0 ≤ tnv11.toInt ∧ tnv11.toInt ≤ 6 from by omega) (show 0 ≤ tnv16.toInt ∧ tnv16.toInt ≤ 2 from by omega) hp_tng3_0 hp_tng4_0 hp_tng5_0 hp_tng9_0 hp_tng10_0) (cwV 3 hts (gV tw_5_156 tw_3_184 tw_3_185 tw_1_6 tw_3_186) rfl rfl rfl hdV_X1_fall ⟨Nat.le_of_ble_eq_true rfl, Nat.le_of_ble_eq_true rfl⟩) (cz_V hK hPc hDc hN (ci := 1) (q0 := 0) rfl rfl [.ref tn, .int r_1, .int p3]) rfl rfl hl.1 rfl (lv_room (Nat.le_of_ble_eq_true rfl)) dX3_weighLanes_11 ⟨Nat.le_of_ble_eq_true rfl, Nat.le_of_ble_eq_true rfl⟩) hS (fun q _ h => hFc q h) hFc (fun uZ tZ H1 locs ht hvm hw hB hz1 hk1 hS => ?_)
  obtain ⟨o_5, o_6, o_7⟩ := uZ
  obtain ⟨hP1, hK1, hD1⟩ := hB
  rw [ht] at hP1
  obtain ⟨hP, hD⟩ := va_join (wr := [(ob, .inr (3, [.ref oba, .ref ob_1])), (ob_1, .inl (k 2, 1000, .inr (.inl obg1))), (tn_6, .inl (k 0, 10, .inl tng6))]) (w1 := [(oba, .inr (1, [.ref oba_0, .int o_5, .int o_6])), (oba_0, .inl (k 0, 8, .inl o_7)), (tn, .inr (10, [.int tnv0, .int tnv1, .int tnv2, .ref tn_3, .ref tn_4, .ref tn_5, .ref tn_6, .int tnv7, .int tnv8, .ref tn_9, .ref tn_10, .int tnv11, .ref tn_12, .ref tn_13, .ref tn_14, .ref tn_15, .int tnv16, .ref tn_17, .ref tn_18, .ref tnt])), (tn_3, .inl (k 0, 10, .inl tng3)), (tn_4, .inl (k 0, 10, .inl tng4)), (tn_5, .inl (k 0, 10, .inl tng5)), (tn_9, .inl (k 0, 4, .inl tng9)), (tn_10, .inl (k 0, 4, .inl tng10))]) hP hD [1, 2, 10, 4, 5, 6, 8, 9] [0, 3, 7] rfl rfl (by decide) (by decide) hk1 hFc hP1 hD1
  clear hK1 hP1 hD1 hPc hDc hFc
  clear hk1 hz1 ht hvm
  have hP : va_P D vwCl [(ob, .inr (3, [.ref oba, .ref ob_1])), (ob_1, .inl (k 2, 1000, .inr (.inl obg1))), (tn_6, .inl (k 0, 10, .inl tng6)), (oba, .inr (1, [.ref oba_0, .int o_5, .int o_6])), (oba_0, .inl (k 0, 8, .inl o_7)), (tn, .inr (10, [.int tnv0, .int tnv1, .int tnv2, .ref tn_3, .ref tn_4, .ref tn_5, .ref tn_6, .int tnv7, .int tnv8, .ref tn_9, .ref tn_10, .int tnv11, .ref tn_12, .ref tn_13, .ref tn_14, .ref tn_15, .int tnv16, .ref tn_17, .ref tn_18, .ref tnt])), (tn_3, .inl (k 0, 10, .inl tng3)), (tn_4, .inl (k 0, 10, .inl tng4)), (tn_5, .inl (k 0, 10, .inl tng5)), (tn_9, .inl (k 0, 4, .inl tng9)), (tn_10, .inl (k 0, 4, .inl tng10))] H1 := hP
  have hD : va_D A [(ob, .inr (3, [.ref oba, .ref ob_1])), (ob_1, .inl (k 2, 1000, .inr (.inl obg1))), (tn_6, .inl (k 0, 10, .inl tng6)), (oba, .inr (1, [.ref oba_0, .int o_5, .int o_6])), (oba_0, .inl (k 0, 8, .inl o_7)), (tn, .inr (10, [.int tnv0, .int tnv1, .int tnv2, .ref tn_3, .ref tn_4, .ref tn_5, .ref tn_6, .int tnv7, .int tnv8, .ref tn_9, .ref tn_10, .int tnv11, .ref tn_12, .ref tn_13, .ref tn_14, .ref tn_15, .int tnv16, .ref tn_17, .ref tn_18, .ref tnt])), (tn_3, .inl (k 0, 10, .inl tng3)), (tn_4, .inl (k 0, 10, .inl tng4)), (tn_5, .inl (k 0, 10, .inl tng5)), (tn_9, .inl (k 0, 4, .inl tng9)), (tn_10, .inl (k 0, 4, .inl tng10))] := hD
  generalize H1 = H at hP hS ⊢
  have hw_8 : (PR 8 1 0 0 1000000 o_7) := hw
  have hw_9 := hw_8
  clear hw
  refine lv_aload_n hx hb dX3_weighLanes_14 rfl (lv_at hl 0 rfl) ?_
  refine va_get (D := D) (ci := 3) (v := .ref oba) (C := RX3) (T := TX3) (N := 2) hx hb hts iT_X3 hown hK hP 0 rfl rfl 0 (by decide) (hts _ tw_2_163) (fun _ h9 => h9) rfl dX3_weighLanes_15 ?_
  refine va_get (D := D) (ci := 1) (v := .ref oba_0) (C := RX1) (T := TX1) (N := 3) hx hb hts iT_X1 hown hK hP 3 rfl rfl 0 (by decide) (hts _ tw_2_21) (fun _ h9 => h9) rfl dX3_weighLanes_18 ?_
  refine lv_iload_n hx hb dX3_weighLanes_21 rfl (lv_at hl 2 rfl) ?_
  refine va_iald hx hb hK hP 4 0 rfl rfl (z_in (by omega) (by omega)) dX3_weighLanes_22 ?_
  refine lv_topi (fun x_10 ex_10 => ?_)
  have zx_10r0 : 0 ≤ x_10.toInt ∧ x_10.toInt ≤ 1000000 := by rw [ex_10]; exact PR.ld hw_9 (by omega) (by omega) (by omega)
  refine lv_istore (lv' := [(8, .int x_10), (0, .ref ob), (1, .ref tn), (2, .int p1), (3, .int p2), (4, .int p3), (5, .long p4), (7, .int 5)]) hx hb dX3_weighLanes_23 hl (by decide) rfl (fun ls hl => ?_)
  refine lv_iload hx hb dX3_weighLanes_25 (lv_at hl 0 rfl) ?_
  refine lv_sipush (v := 1000) hx hb dX3_weighLanes_27 (by decide) ?_
  refine lv_icmp_lt (tgt := 34) hx hb dX3_weighLanes_30 (by decide) (fun h_11 => ?_) (fun h_11 => ?_)
  · skip
    have zh_11 : x_10.toInt < 1000 := z_lt h_11
    refine lv_aload_n hx hb dX3_weighLanes_34 rfl (lv_at hl 1 rfl) ?_
    refine va_get (D := D) (ci := 3) (v := .ref oba) (C := RX3) (T := TX3) (N := 2) hx hb hts iT_X3 hown hK hP 0 rfl rfl 0 (by decide) (hts _ tw_2_163) (fun _ h9 => h9) rfl dX3_weighLanes_35 ?_
    refine lv_aload_n hx hb dX3_weighLanes_38 rfl (lv_at hl 2 rfl) ?_
    refine lv_iload_n hx hb dX3_weighLanes_39 rfl (lv_at hl 3 rfl) ?_
    have hPc := hP.sub (ws' := [(oba, .inr (1, [.ref oba_0, .int o_5, .int o_6])), (oba_0, .inl (k 0, 8, .inl o_7)), (tn, .inr (10, [.int tnv0, .int tnv1, .int tnv2, .ref tn_3, .ref tn_4, .ref tn_5, .ref tn_6, .int tnv7, .int tnv8, .ref tn_9, .ref tn_10, .int tnv11, .ref tn_12, .ref tn_13, .ref tn_14, .ref tn_15, .int tnv16, .ref tn_17, .ref tn_18, .ref tnt])), (tn_3, .inl (k 0, 10, .inl tng3)), (tn_4, .inl (k 0, 10, .inl tng4)), (tn_5, .inl (k 0, 10, .inl tng5)), (tn_9, .inl (k 0, 4, .inl tng9)), (tn_10, .inl (k 0, 4, .inl tng10))]) [3, 4, 5, 6, 7, 8, 9, 10] rfl
    have hDc := hD.sub (ws' := [(oba, .inr (1, [.ref oba_0, .int o_5, .int o_6])), (oba_0, .inl (k 0, 8, .inl o_7)), (tn, .inr (10, [.int tnv0, .int tnv1, .int tnv2, .ref tn_3, .ref tn_4, .ref tn_5, .ref tn_6, .int tnv7, .int tnv8, .ref tn_9, .ref tn_10, .int tnv11, .ref tn_12, .ref tn_13, .ref tn_14, .ref tn_15, .int tnv16, .ref tn_17, .ref tn_18, .ref tnt])), (tn_3, .inl (k 0, 10, .inl tng3)), (tn_4, .inl (k 0, 10, .inl tng4)), (tn_5, .inl (k 0, 10, .inl tng5)), (tn_9, .inl (k 0, 4, .inl tng9)), (tn_10, .inl (k 0, 4, .inl tng10))]) [3, 4, 5, 6, 7, 8, 9, 10] (by decide) rfl
    have hFc := va_free (wc := [(oba, .inr (1, [.ref oba_0, .int o_5, .int o_6])), (oba_0, .inl (k 0, 8, .inl o_7)), (tn, .inr (10, [.int tnv0, .int tnv1, .int tnv2, .ref tn_3, .ref tn_4, .ref tn_5, .ref tn_6, .int tnv7, .int tnv8, .ref tn_9, .ref tn_10, .int tnv11, .ref tn_12, .ref tn_13, .ref tn_14, .ref tn_15, .int tnv16, .ref tn_17, .ref tn_18, .ref tnt])), (tn_3, .inl (k 0, 10, .inl tng3)), (tn_4, .inl (k 0, 10, .inl tng4)), (tn_5, .inl (k 0, 10, .inl tng5)), (tn_9, .inl (k 0, 4, .inl tng9)), (tn_10, .inl (k 0, 4, .inl tng10))]) hD hS hA [3, 4, 5, 6, 7, 8, 9, 10] rfl
    refine va_calli (va_runV (C := RX1) (As := [.ref tn, .int p1]) (rest := []) ⟨hx, hb, hml, hown, hts⟩ (c_X1_wayTo l D k oba tn p1 oba_0 o_5 o_6 o_7 tnv0 tnv1 tnv2 tn_3 tn_4 tn_5 tn_6 tnv7 tnv8 tn_9 tn_10 tnv11 tn_12 tn_13 tn_14 tn_15 tnv16 tn_17 tn_18 tnt tng3 tng4 tng5 tng9 tng10 H.size (show 0 ≤ p1.toInt ∧ p1.toInt ≤ 7 from by omega) hw_9 (show 0 ≤ tnv0.toInt ∧ tnv0.toInt ≤ 8 from by omega) (show 0 ≤ tnv2.toInt ∧ tnv2.toInt ≤ 10 from by omega) (show 0 ≤ tnv8.toInt ∧ tnv8.toInt ≤ 4 from by omega) (show 0 ≤ tnv11.toInt ∧ tnv11.toInt ≤ 6 from by omega) (show 0 ≤ tnv16.toInt ∧ tnv16.toInt ≤ 2 from by omega) hp_tng3_0 hp_tng4_0 hp_tng5_0 hp_tng9_0 hp_tng10_0) (cwV 2 hts (gV tw_5_157 tw_4_96 tw_4_97 tw_1_6 tw_4_98) rfl rfl rfl hdV_X1_wayTo ⟨Nat.le_of_ble_eq_true rfl, Nat.le_of_ble_eq_true rfl⟩) (cz_V hK hPc hDc hN (ci := 1) (q0 := 0) rfl rfl [.ref tn, .int p1]) rfl rfl hl.1 rfl (lv_room (Nat.le_of_ble_eq_true rfl)) dX3_weighLanes_40 ⟨Nat.le_of_ble_eq_true rfl, Nat.le_of_ble_eq_true rfl⟩) hS (fun q _ h => hFc q h) hFc (fun r_12 uZ tZ H1 locs ht hvm hw hB hz1 hk1 hS => ?_)
    obtain ⟨hP1, hK1, hD1⟩ := hB
    rw [ht] at hP1
    obtain ⟨hP, hD⟩ := va_join (wr := [(ob, .inr (3, [.ref oba, .ref ob_1])), (ob_1, .inl (k 2, 1000, .inr (.inl obg1))), (tn_6, .inl (k 0, 10, .inl tng6))]) (w1 := [(oba, .inr (1, [.ref oba_0, .int o_5, .int o_6])), (oba_0, .inl (k 0, 8, .inl o_7)), (tn, .inr (10, [.int tnv0, .int tnv1, .int tnv2, .ref tn_3, .ref tn_4, .ref tn_5, .ref tn_6, .int tnv7, .int tnv8, .ref tn_9, .ref tn_10, .int tnv11, .ref tn_12, .ref tn_13, .ref tn_14, .ref tn_15, .int tnv16, .ref tn_17, .ref tn_18, .ref tnt])), (tn_3, .inl (k 0, 10, .inl tng3)), (tn_4, .inl (k 0, 10, .inl tng4)), (tn_5, .inl (k 0, 10, .inl tng5)), (tn_9, .inl (k 0, 4, .inl tng9)), (tn_10, .inl (k 0, 4, .inl tng10))]) hP hD [3, 4, 5, 6, 7, 8, 9, 10] [0, 1, 2] rfl rfl (by decide) (by decide) hk1 hFc hP1 hD1
    clear hK1 hP1 hD1 hPc hDc hFc
    clear hk1 hz1 ht hvm
    have hP : va_P D vwCl [(ob, .inr (3, [.ref oba, .ref ob_1])), (ob_1, .inl (k 2, 1000, .inr (.inl obg1))), (tn_6, .inl (k 0, 10, .inl tng6)), (oba, .inr (1, [.ref oba_0, .int o_5, .int o_6])), (oba_0, .inl (k 0, 8, .inl o_7)), (tn, .inr (10, [.int tnv0, .int tnv1, .int tnv2, .ref tn_3, .ref tn_4, .ref tn_5, .ref tn_6, .int tnv7, .int tnv8, .ref tn_9, .ref tn_10, .int tnv11, .ref tn_12, .ref tn_13, .ref tn_14, .ref tn_15, .int tnv16, .ref tn_17, .ref tn_18, .ref tnt])), (tn_3, .inl (k 0, 10, .inl tng3)), (tn_4, .inl (k 0, 10, .inl tng4)), (tn_5, .inl (k 0, 10, .inl tng5)), (tn_9, .inl (k 0, 4, .inl tng9)), (tn_10, .inl (k 0, 4, .inl tng10))] H1 := hP
    have hD : va_D A [(ob, .inr (3, [.ref oba, .ref ob_1])), (ob_1, .inl (k 2, 1000, .inr (.inl obg1))), (tn_6, .inl (k 0, 10, .inl tng6)), (oba, .inr (1, [.ref oba_0, .int o_5, .int o_6])), (oba_0, .inl (k 0, 8, .inl o_7)), (tn, .inr (10, [.int tnv0, .int tnv1, .int tnv2, .ref tn_3, .ref tn_4, .ref tn_5, .ref tn_6, .int tnv7, .int tnv8, .ref tn_9, .ref tn_10, .int tnv11, .ref tn_12, .ref tn_13, .ref tn_14, .ref tn_15, .int tnv16, .ref tn_17, .ref tn_18, .ref tnt])), (tn_3, .inl (k 0, 10, .inl tng3)), (tn_4, .inl (k 0, 10, .inl tng4)), (tn_5, .inl (k 0, 10, .inl tng5)), (tn_9, .inl (k 0, 4, .inl tng9)), (tn_10, .inl (k 0, 4, .inl tng10))] := hD
    generalize H1 = H at hP hS ⊢
    have hw_13 : (0 ≤ r_12.toInt ∧ r_12.toInt ≤ 1023) := hw
    have hw_14 := hw_13
    clear hw
    refine lv_iload_n hx hb dX3_weighLanes_43 rfl (lv_at hl 4 rfl) ?_
    refine lv_iconst (v := (-1)) hx hb dX3_weighLanes_44 (by decide) ?_
    refine lv_ixor hx hb dX3_weighLanes_45 ?_
    refine lv_topi (fun x_15 ex_15 => ?_)
    have zrp2 := z_rng p2
    refine lv_iand hx hb dX3_weighLanes_46 ?_
    refine lv_topi (fun x_16 ex_16 => ?_)
    have zrx_15 := z_rng x_15
    have zx_16 : 0 ≤ x_16.toInt ∧ x_16.toInt ≤ r_12.toInt := by rw [ex_16]; exact z_andL (by omega)
    refine lv_istore (lv' := [(9, .int x_16), (8, .int x_10), (0, .ref ob), (1, .ref tn), (2, .int p1), (3, .int p2), (4, .int p3), (5, .long p4), (7, .int 5)]) hx hb dX3_weighLanes_47 hl (by decide) rfl (fun ls hl => ?_)
    refine lv_iload hx hb dX3_weighLanes_49 (lv_at hl 0 rfl) ?_
    refine lv_iload hx hb dX3_weighLanes_51 (lv_at hl 0 rfl) ?_
    refine lv_ineg hx hb dX3_weighLanes_53 ?_
    refine lv_topi (fun x_17 ex_17 => ?_)
    refine lv_iand hx hb dX3_weighLanes_54 ?_
    refine lv_topi (fun x_18 ex_18 => ?_)
    have zrx_17 := z_rng x_17
    have zx_18 : 0 ≤ x_18.toInt ∧ x_18.toInt ≤ x_16.toInt := by rw [ex_18]; exact z_andL (by omega)
    refine lv_iconst (v := 1) hx hb dX3_weighLanes_55 (by decide) ?_
    refine lv_isub hx hb dX3_weighLanes_56 ?_
    refine lv_topi (fun x_19 ex_19 => ?_)
    have zx_19 : x_19.toInt = x_18.toInt - 1 := by rw [ex_19]; exact z_sub rfl rfl (by omega) (by omega)
    have hPc := hP.sub (ws' := []) [] rfl
    have hDc := hD.sub (ws' := []) [] (by decide) rfl
    have hFc := va_free (wc := []) hD hS hA [] rfl
    refine va_calli (va_runS (As := [.int x_19]) (rest := []) ⟨hx, hb, hml, hown, hts⟩ (c_J6_bitCount_0f7a4 l D k x_19 H.size) (va_cwS 1 hts (gS tw_5_158 tw_4_101 tw_1_20 tw_4_102) rfl rfl rfl hdS_J6_bitCount_0f7a4 ⟨Nat.le_of_ble_eq_true rfl, Nat.le_of_ble_eq_true rfl⟩) (cz_S hK hPc hDc hN [.int x_19]) rfl rfl hl.1 rfl (lv_room (Nat.le_of_ble_eq_true rfl)) dX3_weighLanes_57 ⟨Nat.le_of_ble_eq_true rfl, Nat.le_of_ble_eq_true rfl⟩) hS (fun q _ h => hFc q h) hFc (fun r_20 uZ tZ H1 locs ht hvm hw hB hz1 hk1 hS => ?_)
    obtain ⟨hP1, hK1, hD1⟩ := hB
    rw [ht] at hP1
    obtain ⟨hP, hD⟩ := va_join (wr := [(ob, .inr (3, [.ref oba, .ref ob_1])), (ob_1, .inl (k 2, 1000, .inr (.inl obg1))), (tn_6, .inl (k 0, 10, .inl tng6)), (oba, .inr (1, [.ref oba_0, .int o_5, .int o_6])), (oba_0, .inl (k 0, 8, .inl o_7)), (tn, .inr (10, [.int tnv0, .int tnv1, .int tnv2, .ref tn_3, .ref tn_4, .ref tn_5, .ref tn_6, .int tnv7, .int tnv8, .ref tn_9, .ref tn_10, .int tnv11, .ref tn_12, .ref tn_13, .ref tn_14, .ref tn_15, .int tnv16, .ref tn_17, .ref tn_18, .ref tnt])), (tn_3, .inl (k 0, 10, .inl tng3)), (tn_4, .inl (k 0, 10, .inl tng4)), (tn_5, .inl (k 0, 10, .inl tng5)), (tn_9, .inl (k 0, 4, .inl tng9)), (tn_10, .inl (k 0, 4, .inl tng10))]) (w1 := []) hP hD [] [0, 1, 2, 3, 4, 5, 6, 7, 8, 9, 10] rfl rfl (by decide) (by decide) hk1 hFc hP1 hD1
    clear hK1 hP1 hD1 hPc hDc hFc
    clear hk1 hz1 ht hvm
    have hP : va_P D vwCl [(ob, .inr (3, [.ref oba, .ref ob_1])), (ob_1, .inl (k 2, 1000, .inr (.inl obg1))), (tn_6, .inl (k 0, 10, .inl tng6)), (oba, .inr (1, [.ref oba_0, .int o_5, .int o_6])), (oba_0, .inl (k 0, 8, .inl o_7)), (tn, .inr (10, [.int tnv0, .int tnv1, .int tnv2, .ref tn_3, .ref tn_4, .ref tn_5, .ref tn_6, .int tnv7, .int tnv8, .ref tn_9, .ref tn_10, .int tnv11, .ref tn_12, .ref tn_13, .ref tn_14, .ref tn_15, .int tnv16, .ref tn_17, .ref tn_18, .ref tnt])), (tn_3, .inl (k 0, 10, .inl tng3)), (tn_4, .inl (k 0, 10, .inl tng4)), (tn_5, .inl (k 0, 10, .inl tng5)), (tn_9, .inl (k 0, 4, .inl tng9)), (tn_10, .inl (k 0, 4, .inl tng10))] H1 := hP
    have hD : va_D A [(ob, .inr (3, [.ref oba, .ref ob_1])), (ob_1, .inl (k 2, 1000, .inr (.inl obg1))), (tn_6, .inl (k 0, 10, .inl tng6)), (oba, .inr (1, [.ref oba_0, .int o_5, .int o_6])), (oba_0, .inl (k 0, 8, .inl o_7)), (tn, .inr (10, [.int tnv0, .int tnv1, .int tnv2, .ref tn_3, .ref tn_4, .ref tn_5, .ref tn_6, .int tnv7, .int tnv8, .ref tn_9, .ref tn_10, .int tnv11, .ref tn_12, .ref tn_13, .ref tn_14, .ref tn_15, .int tnv16, .ref tn_17, .ref tn_18, .ref tnt])), (tn_3, .inl (k 0, 10, .inl tng3)), (tn_4, .inl (k 0, 10, .inl tng4)), (tn_5, .inl (k 0, 10, .inl tng5)), (tn_9, .inl (k 0, 4, .inl tng9)), (tn_10, .inl (k 0, 4, .inl tng10))] := hD
    generalize H1 = H at hP hS ⊢
    have hw_21 : (0 ≤ r_20.toInt ∧ r_20.toInt ≤ 63) := hw
    have hw_22 := hw_21
    clear hw
    refine lv_istore (lv' := [(10, .int r_20), (9, .int x_16), (8, .int x_10), (0, .ref ob), (1, .ref tn), (2, .int p1), (3, .int p2), (4, .int p3), (5, .long p4), (7, .int 5)]) hx hb dX3_weighLanes_60 hl (by decide) rfl (fun ls hl => ?_)
    refine lv_iload hx hb dX3_weighLanes_62 (lv_at hl 1 rfl) ?_
    refine lv_if_eq (tgt := 81) hx hb dX3_weighLanes_64 (by decide) (fun h_23 => ?_) (fun h_23 => ?_)
    · skip
      have zh_23 : x_16.toInt = 0 := z_eq h_23
      refine lv_aload_n hx hb dX3_weighLanes_81 rfl (lv_at hl 3 rfl) ?_
      refine va_get (D := D) (ci := 3) (v := .ref ob_1) (C := RX3) (T := TX3) (N := 2) hx hb hts iT_X3 hown hK hP 0 rfl rfl 1 (by decide) (hts _ tw_2_164) (fun _ h9 => h9) rfl dX3_weighLanes_82 ?_
      refine lv_iload hx hb dX3_weighLanes_85 (lv_at hl 2 rfl) ?_
      refine lv_dup2_11 hx hb dX3_weighLanes_87 rfl rfl ?_
      refine va_lald hx hb hK hP 1 2 rfl rfl (z_in (by omega) (by omega)) dX3_weighLanes_88 ?_
      refine lv_topl (fun x_24 ex_24 => ?_)
      refine lv_lload hx hb dX3_weighLanes_89 (lv_at hl 8 rfl) ?_
      refine lv_ladd hx hb dX3_weighLanes_91 ?_
      refine lv_topl (fun x_25 ex_25 => ?_)
      refine va_last hx hb hK hP hD hS 1 2 rfl rfl (z_in (by omega) (by omega)) dX3_weighLanes_92 (fun H locs hP hD hS => ?_)
      obtain ⟨g_26, eg_26⟩ : ∃ z : Nat → Int64, vp_updL obg1 x_10.toNatClampNeg x_25 = z := ⟨_, rfl⟩
      have hP : va_P D vwCl [(ob, .inr (3, [.ref oba, .ref ob_1])), (ob_1, .inl (k 2, 1000, .inr (.inl (vp_updL obg1 x_10.toNatClampNeg x_25)))), (tn_6, .inl (k 0, 10, .inl tng6)), (oba, .inr (1, [.ref oba_0, .int o_5, .int o_6])), (oba_0, .inl (k 0, 8, .inl o_7)), (tn, .inr (10, [.int tnv0, .int tnv1, .int tnv2, .ref tn_3, .ref tn_4, .ref tn_5, .ref tn_6, .int tnv7, .int tnv8, .ref tn_9, .ref tn_10, .int tnv11, .ref tn_12, .ref tn_13, .ref tn_14, .ref tn_15, .int tnv16, .ref tn_17, .ref tn_18, .ref tnt])), (tn_3, .inl (k 0, 10, .inl tng3)), (tn_4, .inl (k 0, 10, .inl tng4)), (tn_5, .inl (k 0, 10, .inl tng5)), (tn_9, .inl (k 0, 4, .inl tng9)), (tn_10, .inl (k 0, 4, .inl tng10))] H := hP
      have hD : va_D A [(ob, .inr (3, [.ref oba, .ref ob_1])), (ob_1, .inl (k 2, 1000, .inr (.inl (vp_updL obg1 x_10.toNatClampNeg x_25)))), (tn_6, .inl (k 0, 10, .inl tng6)), (oba, .inr (1, [.ref oba_0, .int o_5, .int o_6])), (oba_0, .inl (k 0, 8, .inl o_7)), (tn, .inr (10, [.int tnv0, .int tnv1, .int tnv2, .ref tn_3, .ref tn_4, .ref tn_5, .ref tn_6, .int tnv7, .int tnv8, .ref tn_9, .ref tn_10, .int tnv11, .ref tn_12, .ref tn_13, .ref tn_14, .ref tn_15, .int tnv16, .ref tn_17, .ref tn_18, .ref tnt])), (tn_3, .inl (k 0, 10, .inl tng3)), (tn_4, .inl (k 0, 10, .inl tng4)), (tn_5, .inl (k 0, 10, .inl tng5)), (tn_9, .inl (k 0, 4, .inl tng9)), (tn_10, .inl (k 0, 4, .inl tng10))] := hD
      rw [eg_26] at hP hD
      have hP9 := hP.sub (ws' := [(ob, .inr (3, [.ref oba, .ref ob_1])), (oba, .inr (1, [.ref oba_0, .int o_5, .int o_6])), (oba_0, .inl (k 0, 8, .inl o_7)), (ob_1, .inl (k 2, 1000, .inr (.inl g_26))), (tn, .inr (10, [.int tnv0, .int tnv1, .int tnv2, .ref tn_3, .ref tn_4, .ref tn_5, .ref tn_6, .int tnv7, .int tnv8, .ref tn_9, .ref tn_10, .int tnv11, .ref tn_12, .ref tn_13, .ref tn_14, .ref tn_15, .int tnv16, .ref tn_17, .ref tn_18, .ref tnt])), (tn_3, .inl (k 0, 10, .inl tng3)), (tn_4, .inl (k 0, 10, .inl tng4)), (tn_5, .inl (k 0, 10, .inl tng5)), (tn_6, .inl (k 0, 10, .inl tng6)), (tn_9, .inl (k 0, 4, .inl tng9)), (tn_10, .inl (k 0, 4, .inl tng10))]) [0, 3, 4, 1, 5, 6, 7, 8, 2, 9, 10] rfl
      have hD9 := hD.sub (ws' := [(ob, .inr (3, [.ref oba, .ref ob_1])), (oba, .inr (1, [.ref oba_0, .int o_5, .int o_6])), (oba_0, .inl (k 0, 8, .inl o_7)), (ob_1, .inl (k 2, 1000, .inr (.inl g_26))), (tn, .inr (10, [.int tnv0, .int tnv1, .int tnv2, .ref tn_3, .ref tn_4, .ref tn_5, .ref tn_6, .int tnv7, .int tnv8, .ref tn_9, .ref tn_10, .int tnv11, .ref tn_12, .ref tn_13, .ref tn_14, .ref tn_15, .int tnv16, .ref tn_17, .ref tn_18, .ref tnt])), (tn_3, .inl (k 0, 10, .inl tng3)), (tn_4, .inl (k 0, 10, .inl tng4)), (tn_5, .inl (k 0, 10, .inl tng5)), (tn_6, .inl (k 0, 10, .inl tng6)), (tn_9, .inl (k 0, 4, .inl tng9)), (tn_10, .inl (k 0, 4, .inl tng10))]) [0, 3, 4, 1, 5, 6, 7, 8, 2, 9, 10] (by decide) rfl
      exact W.vret hx hb hr (fun tZ ht hW => ⟨⟨(o_5, o_6, o_7, g_26), rfl, hw_9, by rw [ht]; exact hP9, va_K.moved hW.alike hK, hD9⟩, hS.F ht⟩) hS.2.2 dX3_weighLanes_93
    · skip
      have zh_23 : ¬ x_16.toInt = 0 := z_ne h_23
      refine lv_iload hx hb dX3_weighLanes_67 (lv_at hl 0 rfl) ?_
      refine lv_bipush (v := 10) hx hb dX3_weighLanes_69 (by decide) ?_
      refine lv_icmp_ge (tgt := 81) hx hb dX3_weighLanes_71 (by decide) (fun h_27 => ?_) (fun h_27 => ?_)
      · skip
        have zh_27 : 10 ≤ r_20.toInt := z_le h_27
        refine lv_aload_n hx hb dX3_weighLanes_81 rfl (lv_at hl 3 rfl) ?_
        refine va_get (D := D) (ci := 3) (v := .ref ob_1) (C := RX3) (T := TX3) (N := 2) hx hb hts iT_X3 hown hK hP 0 rfl rfl 1 (by decide) (hts _ tw_2_164) (fun _ h9 => h9) rfl dX3_weighLanes_82 ?_
        refine lv_iload hx hb dX3_weighLanes_85 (lv_at hl 2 rfl) ?_
        refine lv_dup2_11 hx hb dX3_weighLanes_87 rfl rfl ?_
        refine va_lald hx hb hK hP 1 2 rfl rfl (z_in (by omega) (by omega)) dX3_weighLanes_88 ?_
        refine lv_topl (fun x_28 ex_28 => ?_)
        refine lv_lload hx hb dX3_weighLanes_89 (lv_at hl 8 rfl) ?_
        refine lv_ladd hx hb dX3_weighLanes_91 ?_
        refine lv_topl (fun x_29 ex_29 => ?_)
        refine va_last hx hb hK hP hD hS 1 2 rfl rfl (z_in (by omega) (by omega)) dX3_weighLanes_92 (fun H locs hP hD hS => ?_)
        obtain ⟨g_30, eg_30⟩ : ∃ z : Nat → Int64, vp_updL obg1 x_10.toNatClampNeg x_29 = z := ⟨_, rfl⟩
        have hP : va_P D vwCl [(ob, .inr (3, [.ref oba, .ref ob_1])), (ob_1, .inl (k 2, 1000, .inr (.inl (vp_updL obg1 x_10.toNatClampNeg x_29)))), (tn_6, .inl (k 0, 10, .inl tng6)), (oba, .inr (1, [.ref oba_0, .int o_5, .int o_6])), (oba_0, .inl (k 0, 8, .inl o_7)), (tn, .inr (10, [.int tnv0, .int tnv1, .int tnv2, .ref tn_3, .ref tn_4, .ref tn_5, .ref tn_6, .int tnv7, .int tnv8, .ref tn_9, .ref tn_10, .int tnv11, .ref tn_12, .ref tn_13, .ref tn_14, .ref tn_15, .int tnv16, .ref tn_17, .ref tn_18, .ref tnt])), (tn_3, .inl (k 0, 10, .inl tng3)), (tn_4, .inl (k 0, 10, .inl tng4)), (tn_5, .inl (k 0, 10, .inl tng5)), (tn_9, .inl (k 0, 4, .inl tng9)), (tn_10, .inl (k 0, 4, .inl tng10))] H := hP
        have hD : va_D A [(ob, .inr (3, [.ref oba, .ref ob_1])), (ob_1, .inl (k 2, 1000, .inr (.inl (vp_updL obg1 x_10.toNatClampNeg x_29)))), (tn_6, .inl (k 0, 10, .inl tng6)), (oba, .inr (1, [.ref oba_0, .int o_5, .int o_6])), (oba_0, .inl (k 0, 8, .inl o_7)), (tn, .inr (10, [.int tnv0, .int tnv1, .int tnv2, .ref tn_3, .ref tn_4, .ref tn_5, .ref tn_6, .int tnv7, .int tnv8, .ref tn_9, .ref tn_10, .int tnv11, .ref tn_12, .ref tn_13, .ref tn_14, .ref tn_15, .int tnv16, .ref tn_17, .ref tn_18, .ref tnt])), (tn_3, .inl (k 0, 10, .inl tng3)), (tn_4, .inl (k 0, 10, .inl tng4)), (tn_5, .inl (k 0, 10, .inl tng5)), (tn_9, .inl (k 0, 4, .inl tng9)), (tn_10, .inl (k 0, 4, .inl tng10))] := hD
        rw [eg_30] at hP hD
        have hP9 := hP.sub (ws' := [(ob, .inr (3, [.ref oba, .ref ob_1])), (oba, .inr (1, [.ref oba_0, .int o_5, .int o_6])), (oba_0, .inl (k 0, 8, .inl o_7)), (ob_1, .inl (k 2, 1000, .inr (.inl g_30))), (tn, .inr (10, [.int tnv0, .int tnv1, .int tnv2, .ref tn_3, .ref tn_4, .ref tn_5, .ref tn_6, .int tnv7, .int tnv8, .ref tn_9, .ref tn_10, .int tnv11, .ref tn_12, .ref tn_13, .ref tn_14, .ref tn_15, .int tnv16, .ref tn_17, .ref tn_18, .ref tnt])), (tn_3, .inl (k 0, 10, .inl tng3)), (tn_4, .inl (k 0, 10, .inl tng4)), (tn_5, .inl (k 0, 10, .inl tng5)), (tn_6, .inl (k 0, 10, .inl tng6)), (tn_9, .inl (k 0, 4, .inl tng9)), (tn_10, .inl (k 0, 4, .inl tng10))]) [0, 3, 4, 1, 5, 6, 7, 8, 2, 9, 10] rfl
        have hD9 := hD.sub (ws' := [(ob, .inr (3, [.ref oba, .ref ob_1])), (oba, .inr (1, [.ref oba_0, .int o_5, .int o_6])), (oba_0, .inl (k 0, 8, .inl o_7)), (ob_1, .inl (k 2, 1000, .inr (.inl g_30))), (tn, .inr (10, [.int tnv0, .int tnv1, .int tnv2, .ref tn_3, .ref tn_4, .ref tn_5, .ref tn_6, .int tnv7, .int tnv8, .ref tn_9, .ref tn_10, .int tnv11, .ref tn_12, .ref tn_13, .ref tn_14, .ref tn_15, .int tnv16, .ref tn_17, .ref tn_18, .ref tnt])), (tn_3, .inl (k 0, 10, .inl tng3)), (tn_4, .inl (k 0, 10, .inl tng4)), (tn_5, .inl (k 0, 10, .inl tng5)), (tn_6, .inl (k 0, 10, .inl tng6)), (tn_9, .inl (k 0, 4, .inl tng9)), (tn_10, .inl (k 0, 4, .inl tng10))]) [0, 3, 4, 1, 5, 6, 7, 8, 2, 9, 10] (by decide) rfl
        exact W.vret hx hb hr (fun tZ ht hW => ⟨⟨(o_5, o_6, o_7, g_30), rfl, hw_9, by rw [ht]; exact hP9, va_K.moved hW.alike hK, hD9⟩, hS.F ht⟩) hS.2.2 dX3_weighLanes_93
      · skip
        have zh_27 : r_20.toInt < 10 := z_nle h_27
        refine lv_iload hx hb dX3_weighLanes_74 (lv_at hl 9 rfl) ?_
        refine lv_bipush (v := 10) hx hb dX3_weighLanes_76 (by decide) ?_
        refine lv_icmp_lt (tgt := 94) hx hb dX3_weighLanes_78 (by decide) (fun _ => ?_) (fun c9 => absurd c9 (by decide))
        refine lv_iconst (v := 1) hx hb dX3_weighLanes_94 (by decide) ?_
        refine lv_iload hx hb dX3_weighLanes_95 (lv_at hl 0 rfl) ?_
        refine lv_ishl hx hb dX3_weighLanes_97 ?_
        refine lv_topi (fun x_31 ex_31 => ?_)
        have zx_31 : 1 ≤ x_31.toInt ∧ x_31.toInt ≤ 512 := by rw [ex_31]; exact z_shl1 9 512 rfl (by decide) (by omega) (by omega)
        refine lv_istore (lv' := [(11, .int x_31), (10, .int r_20), (9, .int x_16), (8, .int x_10), (0, .ref ob), (1, .ref tn), (2, .int p1), (3, .int p2), (4, .int p3), (5, .long p4), (7, .int 5)]) hx hb dX3_weighLanes_98 hl (by decide) rfl (fun ls hl => ?_)
        refine lv_lload hx hb dX3_weighLanes_100 (lv_at hl 9 rfl) ?_
        refine lv_ldc2 (v := 10) hx hb hown (hts _ tw_5_159) dX3_weighLanes_102 ?_
        refine lv_ldiv hx hb dX3_weighLanes_105 (by decide) ?_
        refine lv_topl (fun x_32 ex_32 => ?_)
        refine lv_lstore (lv' := [(12, .long x_32), (11, .int x_31), (10, .int r_20), (9, .int x_16), (8, .int x_10), (0, .ref ob), (1, .ref tn), (2, .int p1), (3, .int p2), (4, .int p3), (5, .long p4), (7, .int 5)]) hx hb dX3_weighLanes_106 hl (by decide) rfl (fun ls hl => ?_)
        refine lv_aload_n hx hb dX3_weighLanes_108 rfl (lv_at hl 5 rfl) ?_
        refine lv_aload_n hx hb dX3_weighLanes_109 rfl (lv_at hl 6 rfl) ?_
        refine lv_iload_n hx hb dX3_weighLanes_110 rfl (lv_at hl 7 rfl) ?_
        refine lv_iload_n hx hb dX3_weighLanes_111 rfl (lv_at hl 8 rfl) ?_
        refine lv_iload hx hb dX3_weighLanes_112 (lv_at hl 1 rfl) ?_
        refine lv_ior hx hb dX3_weighLanes_114 ?_
        refine lv_topi (fun x_33 ex_33 => ?_)
        refine lv_iload hx hb dX3_weighLanes_115 (lv_at hl 9 rfl) ?_
        refine lv_lload hx hb dX3_weighLanes_117 (lv_at hl 0 rfl) ?_
        refine lv_bipush (v := 10) hx hb dX3_weighLanes_119 (by decide) ?_
        refine lv_aload_n hx hb dX3_weighLanes_121 rfl (lv_at hl 6 rfl) ?_
        refine va_get (D := D) (ci := 10) (v := .ref tn_6) (C := RX10) (T := TX10) (N := 20) hx hb hts iT_X10 hown hK hP 5 rfl rfl 6 (by decide) (hts _ tw_1_98) (fun _ h9 => h9) rfl dX3_weighLanes_122 ?_
        refine lv_iload hx hb dX3_weighLanes_125 (lv_at hl 2 rfl) ?_
        refine va_iald hx hb hK hP 2 0 rfl rfl (z_in (by omega) (by omega)) dX3_weighLanes_127 ?_
        refine lv_topi (fun x_34 ex_34 => ?_)
        have zx_34r0 : 0 ≤ x_34.toInt ∧ x_34.toInt ≤ 10 := by rw [ex_34]; exact PR.ld hp_tng6_0 (by omega) (by omega) (by omega)
        refine lv_isub hx hb dX3_weighLanes_128 ?_
        refine lv_topi (fun x_35 ex_35 => ?_)
        have zx_35 : x_35.toInt = 10 - x_34.toInt := by rw [ex_35]; exact z_sub rfl rfl (by omega) (by omega)
        refine lv_i2l (v := x_35.toInt64) hx hb dX3_weighLanes_129 rfl ?_
        refine lv_lmul hx hb dX3_weighLanes_130 ?_
        refine lv_topl (fun x_36 ex_36 => ?_)
        refine lv_iload hx hb dX3_weighLanes_131 (lv_at hl 11 rfl) ?_
        refine lv_iconst (v := 1) hx hb dX3_weighLanes_133 (by decide) ?_
        refine lv_iadd hx hb dX3_weighLanes_134 ?_
        refine lv_topi (fun x_37 ex_37 => ?_)
        obtain rfl : x_37 = 6 := ex_37.trans (by decide)
        have hPc := hP.sub (ws' := [(ob, .inr (3, [.ref oba, .ref ob_1])), (oba, .inr (1, [.ref oba_0, .int o_5, .int o_6])), (oba_0, .inl (k 0, 8, .inl o_7)), (ob_1, .inl (k 2, 1000, .inr (.inl obg1))), (tn, .inr (10, [.int tnv0, .int tnv1, .int tnv2, .ref tn_3, .ref tn_4, .ref tn_5, .ref tn_6, .int tnv7, .int tnv8, .ref tn_9, .ref tn_10, .int tnv11, .ref tn_12, .ref tn_13, .ref tn_14, .ref tn_15, .int tnv16, .ref tn_17, .ref tn_18, .ref tnt])), (tn_3, .inl (k 0, 10, .inl tng3)), (tn_4, .inl (k 0, 10, .inl tng4)), (tn_5, .inl (k 0, 10, .inl tng5)), (tn_6, .inl (k 0, 10, .inl tng6)), (tn_9, .inl (k 0, 4, .inl tng9)), (tn_10, .inl (k 0, 4, .inl tng10))]) [0, 3, 4, 1, 5, 6, 7, 8, 2, 9, 10] rfl
        have hDc := hD.sub (ws' := [(ob, .inr (3, [.ref oba, .ref ob_1])), (oba, .inr (1, [.ref oba_0, .int o_5, .int o_6])), (oba_0, .inl (k 0, 8, .inl o_7)), (ob_1, .inl (k 2, 1000, .inr (.inl obg1))), (tn, .inr (10, [.int tnv0, .int tnv1, .int tnv2, .ref tn_3, .ref tn_4, .ref tn_5, .ref tn_6, .int tnv7, .int tnv8, .ref tn_9, .ref tn_10, .int tnv11, .ref tn_12, .ref tn_13, .ref tn_14, .ref tn_15, .int tnv16, .ref tn_17, .ref tn_18, .ref tnt])), (tn_3, .inl (k 0, 10, .inl tng3)), (tn_4, .inl (k 0, 10, .inl tng4)), (tn_5, .inl (k 0, 10, .inl tng5)), (tn_6, .inl (k 0, 10, .inl tng6)), (tn_9, .inl (k 0, 4, .inl tng9)), (tn_10, .inl (k 0, 4, .inl tng10))]) [0, 3, 4, 1, 5, 6, 7, 8, 2, 9, 10] (by decide) rfl
        have hFc := va_free (wc := [(ob, .inr (3, [.ref oba, .ref ob_1])), (oba, .inr (1, [.ref oba_0, .int o_5, .int o_6])), (oba_0, .inl (k 0, 8, .inl o_7)), (ob_1, .inl (k 2, 1000, .inr (.inl obg1))), (tn, .inr (10, [.int tnv0, .int tnv1, .int tnv2, .ref tn_3, .ref tn_4, .ref tn_5, .ref tn_6, .int tnv7, .int tnv8, .ref tn_9, .ref tn_10, .int tnv11, .ref tn_12, .ref tn_13, .ref tn_14, .ref tn_15, .int tnv16, .ref tn_17, .ref tn_18, .ref tnt])), (tn_3, .inl (k 0, 10, .inl tng3)), (tn_4, .inl (k 0, 10, .inl tng4)), (tn_5, .inl (k 0, 10, .inl tng5)), (tn_6, .inl (k 0, 10, .inl tng6)), (tn_9, .inl (k 0, 4, .inl tng9)), (tn_10, .inl (k 0, 4, .inl tng10))]) hD hS hA [0, 3, 4, 1, 5, 6, 7, 8, 2, 9, 10] rfl
        refine va_callv (va_runV (C := RX3) (As := [.ref tn, .int p1, .int x_33, .int p3, .long x_36, .int 6]) (rest := []) ⟨hx, hb, hml, hown, hts⟩ (c_X3_weighLanes_4 l D k ob tn p1 x_33 p3 x_36 oba ob_1 oba_0 o_5 o_6 o_7 obg1 tnv0 tnv1 tnv2 tn_3 tn_4 tn_5 tn_6 tnv7 tnv8 tn_9 tn_10 tnv11 tn_12 tn_13 tn_14 tn_15 tnv16 tn_17 tn_18 tnt tng3 tng4 tng5 tng6 tng9 tng10 H.size (show 0 ≤ p1.toInt ∧ p1.toInt ≤ 7 from by omega) hw_9 (show 0 ≤ tnv0.toInt ∧ tnv0.toInt ≤ 8 from by omega) (show 0 ≤ tnv2.toInt ∧ tnv2.toInt ≤ 10 from by omega) (show 0 ≤ tnv8.toInt ∧ tnv8.toInt ≤ 4 from by omega) (show 0 ≤ tnv11.toInt ∧ tnv11.toInt ≤ 6 from by omega) (show 0 ≤ tnv16.toInt ∧ tnv16.toInt ≤ 2 from by omega) hp_tng3_0 hp_tng4_0 hp_tng5_0 hp_tng6_0 hp_tng9_0 hp_tng10_0) (cwV 6 hts (gV tw_5_151 tw_5_153 tw_p_34 tw_1_12 tw_5_154) rfl rfl rfl hdV_X3_weighLanes ⟨Nat.le_of_ble_eq_true rfl, Nat.le_of_ble_eq_true rfl⟩) (cz_V hK hPc hDc hN (ci := 3) (q0 := 0) rfl rfl [.ref tn, .int p1, .int x_33, .int p3, .long x_36, .int 6]) rfl rfl hl.1 rfl (lv_room (Nat.le_of_ble_eq_true rfl)) dX3_weighLanes_135 ⟨Nat.le_of_ble_eq_true rfl, Nat.le_of_ble_eq_true rfl⟩) hS (fun q _ h => hFc q h) hFc (fun uZ tZ H1 locs ht hvm hw hB hz1 hk1 hS => ?_)
        obtain ⟨o_39, o_40, o_41, o_42⟩ := uZ
        obtain ⟨hP1, hK1, hD1⟩ := hB
        rw [ht] at hP1
        obtain ⟨hP, hD⟩ := va_join (wr := []) (w1 := [(ob, .inr (3, [.ref oba, .ref ob_1])), (oba, .inr (1, [.ref oba_0, .int o_39, .int o_40])), (oba_0, .inl (k 0, 8, .inl o_41)), (ob_1, .inl (k 2, 1000, .inr (.inl o_42))), (tn, .inr (10, [.int tnv0, .int tnv1, .int tnv2, .ref tn_3, .ref tn_4, .ref tn_5, .ref tn_6, .int tnv7, .int tnv8, .ref tn_9, .ref tn_10, .int tnv11, .ref tn_12, .ref tn_13, .ref tn_14, .ref tn_15, .int tnv16, .ref tn_17, .ref tn_18, .ref tnt])), (tn_3, .inl (k 0, 10, .inl tng3)), (tn_4, .inl (k 0, 10, .inl tng4)), (tn_5, .inl (k 0, 10, .inl tng5)), (tn_6, .inl (k 0, 10, .inl tng6)), (tn_9, .inl (k 0, 4, .inl tng9)), (tn_10, .inl (k 0, 4, .inl tng10))]) hP hD [0, 3, 4, 1, 5, 6, 7, 8, 2, 9, 10] [] rfl rfl (by decide) (by decide) hk1 hFc hP1 hD1
        clear hK1 hP1 hD1 hPc hDc hFc
        clear hk1 hz1 ht hvm
        have hP : va_P D vwCl [(ob, .inr (3, [.ref oba, .ref ob_1])), (oba, .inr (1, [.ref oba_0, .int o_39, .int o_40])), (oba_0, .inl (k 0, 8, .inl o_41)), (ob_1, .inl (k 2, 1000, .inr (.inl o_42))), (tn, .inr (10, [.int tnv0, .int tnv1, .int tnv2, .ref tn_3, .ref tn_4, .ref tn_5, .ref tn_6, .int tnv7, .int tnv8, .ref tn_9, .ref tn_10, .int tnv11, .ref tn_12, .ref tn_13, .ref tn_14, .ref tn_15, .int tnv16, .ref tn_17, .ref tn_18, .ref tnt])), (tn_3, .inl (k 0, 10, .inl tng3)), (tn_4, .inl (k 0, 10, .inl tng4)), (tn_5, .inl (k 0, 10, .inl tng5)), (tn_6, .inl (k 0, 10, .inl tng6)), (tn_9, .inl (k 0, 4, .inl tng9)), (tn_10, .inl (k 0, 4, .inl tng10))] H1 := hP
        have hD : va_D A [(ob, .inr (3, [.ref oba, .ref ob_1])), (oba, .inr (1, [.ref oba_0, .int o_39, .int o_40])), (oba_0, .inl (k 0, 8, .inl o_41)), (ob_1, .inl (k 2, 1000, .inr (.inl o_42))), (tn, .inr (10, [.int tnv0, .int tnv1, .int tnv2, .ref tn_3, .ref tn_4, .ref tn_5, .ref tn_6, .int tnv7, .int tnv8, .ref tn_9, .ref tn_10, .int tnv11, .ref tn_12, .ref tn_13, .ref tn_14, .ref tn_15, .int tnv16, .ref tn_17, .ref tn_18, .ref tnt])), (tn_3, .inl (k 0, 10, .inl tng3)), (tn_4, .inl (k 0, 10, .inl tng4)), (tn_5, .inl (k 0, 10, .inl tng5)), (tn_6, .inl (k 0, 10, .inl tng6)), (tn_9, .inl (k 0, 4, .inl tng9)), (tn_10, .inl (k 0, 4, .inl tng10))] := hD
        generalize H1 = H at hP hS ⊢
        have hw_43 : (PR 8 1 0 0 1000000 o_41) := hw
        have hw_44 := hw_43
        clear hw
        refine lv_aload_n hx hb dX3_weighLanes_138 rfl (lv_at hl 5 rfl) ?_
        refine lv_aload_n hx hb dX3_weighLanes_139 rfl (lv_at hl 6 rfl) ?_
        refine lv_iload_n hx hb dX3_weighLanes_140 rfl (lv_at hl 7 rfl) ?_
        refine lv_iload_n hx hb dX3_weighLanes_141 rfl (lv_at hl 8 rfl) ?_
        refine lv_iload hx hb dX3_weighLanes_142 (lv_at hl 1 rfl) ?_
        refine lv_ior hx hb dX3_weighLanes_144 ?_
        refine lv_topi (fun x_45 ex_45 => ?_)
        obtain rfl : x_33 = x_45 := ex_33.trans ex_45.symm
        refine lv_iload hx hb dX3_weighLanes_145 (lv_at hl 9 rfl) ?_
        refine lv_iload hx hb dX3_weighLanes_147 (lv_at hl 1 rfl) ?_
        refine lv_ior hx hb dX3_weighLanes_149 ?_
        refine lv_topi (fun x_46 ex_46 => ?_)
        have zrp3 := z_rng p3
        refine lv_lload hx hb dX3_weighLanes_150 (lv_at hl 0 rfl) ?_
        refine lv_aload_n hx hb dX3_weighLanes_152 rfl (lv_at hl 6 rfl) ?_
        refine va_get (D := D) (ci := 10) (v := .ref tn_6) (C := RX10) (T := TX10) (N := 20) hx hb hts iT_X10 hown hK hP 4 rfl rfl 6 (by decide) (hts _ tw_1_98) (fun _ h9 => h9) rfl dX3_weighLanes_153 ?_
        refine lv_iload hx hb dX3_weighLanes_156 (lv_at hl 2 rfl) ?_
        refine va_iald hx hb hK hP 8 0 rfl rfl (z_in (by omega) (by omega)) dX3_weighLanes_158 ?_
        refine lv_topi (fun x_47 ex_47 => ?_)
        obtain rfl : x_34 = x_47 := ex_34.trans ex_47.symm
        refine lv_i2l (v := x_34.toInt64) hx hb dX3_weighLanes_159 rfl ?_
        refine lv_lmul hx hb dX3_weighLanes_160 ?_
        refine lv_topl (fun x_48 ex_48 => ?_)
        refine lv_iload hx hb dX3_weighLanes_161 (lv_at hl 11 rfl) ?_
        refine lv_iconst (v := 1) hx hb dX3_weighLanes_163 (by decide) ?_
        refine lv_iadd hx hb dX3_weighLanes_164 ?_
        refine lv_topi (fun x_49 ex_49 => ?_)
        obtain rfl : x_49 = 6 := ex_49.trans (by decide)
        have hPc := hP.sub (ws' := [(ob, .inr (3, [.ref oba, .ref ob_1])), (oba, .inr (1, [.ref oba_0, .int o_39, .int o_40])), (oba_0, .inl (k 0, 8, .inl o_41)), (ob_1, .inl (k 2, 1000, .inr (.inl o_42))), (tn, .inr (10, [.int tnv0, .int tnv1, .int tnv2, .ref tn_3, .ref tn_4, .ref tn_5, .ref tn_6, .int tnv7, .int tnv8, .ref tn_9, .ref tn_10, .int tnv11, .ref tn_12, .ref tn_13, .ref tn_14, .ref tn_15, .int tnv16, .ref tn_17, .ref tn_18, .ref tnt])), (tn_3, .inl (k 0, 10, .inl tng3)), (tn_4, .inl (k 0, 10, .inl tng4)), (tn_5, .inl (k 0, 10, .inl tng5)), (tn_6, .inl (k 0, 10, .inl tng6)), (tn_9, .inl (k 0, 4, .inl tng9)), (tn_10, .inl (k 0, 4, .inl tng10))]) [0, 1, 2, 3, 4, 5, 6, 7, 8, 9, 10] rfl
        have hDc := hD.sub (ws' := [(ob, .inr (3, [.ref oba, .ref ob_1])), (oba, .inr (1, [.ref oba_0, .int o_39, .int o_40])), (oba_0, .inl (k 0, 8, .inl o_41)), (ob_1, .inl (k 2, 1000, .inr (.inl o_42))), (tn, .inr (10, [.int tnv0, .int tnv1, .int tnv2, .ref tn_3, .ref tn_4, .ref tn_5, .ref tn_6, .int tnv7, .int tnv8, .ref tn_9, .ref tn_10, .int tnv11, .ref tn_12, .ref tn_13, .ref tn_14, .ref tn_15, .int tnv16, .ref tn_17, .ref tn_18, .ref tnt])), (tn_3, .inl (k 0, 10, .inl tng3)), (tn_4, .inl (k 0, 10, .inl tng4)), (tn_5, .inl (k 0, 10, .inl tng5)), (tn_6, .inl (k 0, 10, .inl tng6)), (tn_9, .inl (k 0, 4, .inl tng9)), (tn_10, .inl (k 0, 4, .inl tng10))]) [0, 1, 2, 3, 4, 5, 6, 7, 8, 9, 10] (by decide) rfl
        have hFc := va_free (wc := [(ob, .inr (3, [.ref oba, .ref ob_1])), (oba, .inr (1, [.ref oba_0, .int o_39, .int o_40])), (oba_0, .inl (k 0, 8, .inl o_41)), (ob_1, .inl (k 2, 1000, .inr (.inl o_42))), (tn, .inr (10, [.int tnv0, .int tnv1, .int tnv2, .ref tn_3, .ref tn_4, .ref tn_5, .ref tn_6, .int tnv7, .int tnv8, .ref tn_9, .ref tn_10, .int tnv11, .ref tn_12, .ref tn_13, .ref tn_14, .ref tn_15, .int tnv16, .ref tn_17, .ref tn_18, .ref tnt])), (tn_3, .inl (k 0, 10, .inl tng3)), (tn_4, .inl (k 0, 10, .inl tng4)), (tn_5, .inl (k 0, 10, .inl tng5)), (tn_6, .inl (k 0, 10, .inl tng6)), (tn_9, .inl (k 0, 4, .inl tng9)), (tn_10, .inl (k 0, 4, .inl tng10))]) hD hS hA [0, 1, 2, 3, 4, 5, 6, 7, 8, 9, 10] rfl
        refine va_callv (va_runV (C := RX3) (As := [.ref tn, .int p1, .int x_33, .int x_46, .long x_48, .int 6]) (rest := []) ⟨hx, hb, hml, hown, hts⟩ (c_X3_weighLanes_4 l D k ob tn p1 x_33 x_46 x_48 oba ob_1 oba_0 o_39 o_40 o_41 o_42 tnv0 tnv1 tnv2 tn_3 tn_4 tn_5 tn_6 tnv7 tnv8 tn_9 tn_10 tnv11 tn_12 tn_13 tn_14 tn_15 tnv16 tn_17 tn_18 tnt tng3 tng4 tng5 tng6 tng9 tng10 H.size (show 0 ≤ p1.toInt ∧ p1.toInt ≤ 7 from by omega) hw_44 (show 0 ≤ tnv0.toInt ∧ tnv0.toInt ≤ 8 from by omega) (show 0 ≤ tnv2.toInt ∧ tnv2.toInt ≤ 10 from by omega) (show 0 ≤ tnv8.toInt ∧ tnv8.toInt ≤ 4 from by omega) (show 0 ≤ tnv11.toInt ∧ tnv11.toInt ≤ 6 from by omega) (show 0 ≤ tnv16.toInt ∧ tnv16.toInt ≤ 2 from by omega) hp_tng3_0 hp_tng4_0 hp_tng5_0 hp_tng6_0 hp_tng9_0 hp_tng10_0) (cwV 6 hts (gV tw_5_151 tw_5_153 tw_p_34 tw_1_12 tw_5_154) rfl rfl rfl hdV_X3_weighLanes ⟨Nat.le_of_ble_eq_true rfl, Nat.le_of_ble_eq_true rfl⟩) (cz_V hK hPc hDc hN (ci := 3) (q0 := 0) rfl rfl [.ref tn, .int p1, .int x_33, .int x_46, .long x_48, .int 6]) rfl rfl hl.1 rfl (lv_room (Nat.le_of_ble_eq_true rfl)) dX3_weighLanes_165 ⟨Nat.le_of_ble_eq_true rfl, Nat.le_of_ble_eq_true rfl⟩) hS (fun q _ h => hFc q h) hFc (fun uZ tZ H1 locs ht hvm hw hB hz1 hk1 hS => ?_)
        obtain ⟨o_51, o_52, o_53, o_54⟩ := uZ
        obtain ⟨hP1, hK1, hD1⟩ := hB
        rw [ht] at hP1
        obtain ⟨hP, hD⟩ := va_join (wr := []) (w1 := [(ob, .inr (3, [.ref oba, .ref ob_1])), (oba, .inr (1, [.ref oba_0, .int o_51, .int o_52])), (oba_0, .inl (k 0, 8, .inl o_53)), (ob_1, .inl (k 2, 1000, .inr (.inl o_54))), (tn, .inr (10, [.int tnv0, .int tnv1, .int tnv2, .ref tn_3, .ref tn_4, .ref tn_5, .ref tn_6, .int tnv7, .int tnv8, .ref tn_9, .ref tn_10, .int tnv11, .ref tn_12, .ref tn_13, .ref tn_14, .ref tn_15, .int tnv16, .ref tn_17, .ref tn_18, .ref tnt])), (tn_3, .inl (k 0, 10, .inl tng3)), (tn_4, .inl (k 0, 10, .inl tng4)), (tn_5, .inl (k 0, 10, .inl tng5)), (tn_6, .inl (k 0, 10, .inl tng6)), (tn_9, .inl (k 0, 4, .inl tng9)), (tn_10, .inl (k 0, 4, .inl tng10))]) hP hD [0, 1, 2, 3, 4, 5, 6, 7, 8, 9, 10] [] rfl rfl (by decide) (by decide) hk1 hFc hP1 hD1
        clear hK1 hP1 hD1 hPc hDc hFc
        clear hk1 hz1 ht hvm
        have hP : va_P D vwCl [(ob, .inr (3, [.ref oba, .ref ob_1])), (oba, .inr (1, [.ref oba_0, .int o_51, .int o_52])), (oba_0, .inl (k 0, 8, .inl o_53)), (ob_1, .inl (k 2, 1000, .inr (.inl o_54))), (tn, .inr (10, [.int tnv0, .int tnv1, .int tnv2, .ref tn_3, .ref tn_4, .ref tn_5, .ref tn_6, .int tnv7, .int tnv8, .ref tn_9, .ref tn_10, .int tnv11, .ref tn_12, .ref tn_13, .ref tn_14, .ref tn_15, .int tnv16, .ref tn_17, .ref tn_18, .ref tnt])), (tn_3, .inl (k 0, 10, .inl tng3)), (tn_4, .inl (k 0, 10, .inl tng4)), (tn_5, .inl (k 0, 10, .inl tng5)), (tn_6, .inl (k 0, 10, .inl tng6)), (tn_9, .inl (k 0, 4, .inl tng9)), (tn_10, .inl (k 0, 4, .inl tng10))] H1 := hP
        have hD : va_D A [(ob, .inr (3, [.ref oba, .ref ob_1])), (oba, .inr (1, [.ref oba_0, .int o_51, .int o_52])), (oba_0, .inl (k 0, 8, .inl o_53)), (ob_1, .inl (k 2, 1000, .inr (.inl o_54))), (tn, .inr (10, [.int tnv0, .int tnv1, .int tnv2, .ref tn_3, .ref tn_4, .ref tn_5, .ref tn_6, .int tnv7, .int tnv8, .ref tn_9, .ref tn_10, .int tnv11, .ref tn_12, .ref tn_13, .ref tn_14, .ref tn_15, .int tnv16, .ref tn_17, .ref tn_18, .ref tnt])), (tn_3, .inl (k 0, 10, .inl tng3)), (tn_4, .inl (k 0, 10, .inl tng4)), (tn_5, .inl (k 0, 10, .inl tng5)), (tn_6, .inl (k 0, 10, .inl tng6)), (tn_9, .inl (k 0, 4, .inl tng9)), (tn_10, .inl (k 0, 4, .inl tng10))] := hD
        generalize H1 = H at hP hS ⊢
        have hw_55 : (PR 8 1 0 0 1000000 o_53) := hw
        have hw_56 := hw_55
        clear hw
        have hP9 := hP.sub (ws' := [(ob, .inr (3, [.ref oba, .ref ob_1])), (oba, .inr (1, [.ref oba_0, .int o_51, .int o_52])), (oba_0, .inl (k 0, 8, .inl o_53)), (ob_1, .inl (k 2, 1000, .inr (.inl o_54))), (tn, .inr (10, [.int tnv0, .int tnv1, .int tnv2, .ref tn_3, .ref tn_4, .ref tn_5, .ref tn_6, .int tnv7, .int tnv8, .ref tn_9, .ref tn_10, .int tnv11, .ref tn_12, .ref tn_13, .ref tn_14, .ref tn_15, .int tnv16, .ref tn_17, .ref tn_18, .ref tnt])), (tn_3, .inl (k 0, 10, .inl tng3)), (tn_4, .inl (k 0, 10, .inl tng4)), (tn_5, .inl (k 0, 10, .inl tng5)), (tn_6, .inl (k 0, 10, .inl tng6)), (tn_9, .inl (k 0, 4, .inl tng9)), (tn_10, .inl (k 0, 4, .inl tng10))]) [0, 1, 2, 3, 4, 5, 6, 7, 8, 9, 10] rfl
        have hD9 := hD.sub (ws' := [(ob, .inr (3, [.ref oba, .ref ob_1])), (oba, .inr (1, [.ref oba_0, .int o_51, .int o_52])), (oba_0, .inl (k 0, 8, .inl o_53)), (ob_1, .inl (k 2, 1000, .inr (.inl o_54))), (tn, .inr (10, [.int tnv0, .int tnv1, .int tnv2, .ref tn_3, .ref tn_4, .ref tn_5, .ref tn_6, .int tnv7, .int tnv8, .ref tn_9, .ref tn_10, .int tnv11, .ref tn_12, .ref tn_13, .ref tn_14, .ref tn_15, .int tnv16, .ref tn_17, .ref tn_18, .ref tnt])), (tn_3, .inl (k 0, 10, .inl tng3)), (tn_4, .inl (k 0, 10, .inl tng4)), (tn_5, .inl (k 0, 10, .inl tng5)), (tn_6, .inl (k 0, 10, .inl tng6)), (tn_9, .inl (k 0, 4, .inl tng9)), (tn_10, .inl (k 0, 4, .inl tng10))]) [0, 1, 2, 3, 4, 5, 6, 7, 8, 9, 10] (by decide) rfl
        exact W.vret hx hb hr (fun tZ ht hW => ⟨⟨(o_51, o_52, o_53, o_54), rfl, hw_56, by rw [ht]; exact hP9, va_K.moved hW.alike hK, hD9⟩, hS.F ht⟩) hS.2.2 dX3_weighLanes_168
  · skip
    have zh_11 : 1000 ≤ x_10.toInt := z_nlt h_11
    have hP9 := hP.sub (ws' := [(ob, .inr (3, [.ref oba, .ref ob_1])), (oba, .inr (1, [.ref oba_0, .int o_5, .int o_6])), (oba_0, .inl (k 0, 8, .inl o_7)), (ob_1, .inl (k 2, 1000, .inr (.inl obg1))), (tn, .inr (10, [.int tnv0, .int tnv1, .int tnv2, .ref tn_3, .ref tn_4, .ref tn_5, .ref tn_6, .int tnv7, .int tnv8, .ref tn_9, .ref tn_10, .int tnv11, .ref tn_12, .ref tn_13, .ref tn_14, .ref tn_15, .int tnv16, .ref tn_17, .ref tn_18, .ref tnt])), (tn_3, .inl (k 0, 10, .inl tng3)), (tn_4, .inl (k 0, 10, .inl tng4)), (tn_5, .inl (k 0, 10, .inl tng5)), (tn_6, .inl (k 0, 10, .inl tng6)), (tn_9, .inl (k 0, 4, .inl tng9)), (tn_10, .inl (k 0, 4, .inl tng10))]) [0, 3, 4, 1, 5, 6, 7, 8, 2, 9, 10] rfl
    have hD9 := hD.sub (ws' := [(ob, .inr (3, [.ref oba, .ref ob_1])), (oba, .inr (1, [.ref oba_0, .int o_5, .int o_6])), (oba_0, .inl (k 0, 8, .inl o_7)), (ob_1, .inl (k 2, 1000, .inr (.inl obg1))), (tn, .inr (10, [.int tnv0, .int tnv1, .int tnv2, .ref tn_3, .ref tn_4, .ref tn_5, .ref tn_6, .int tnv7, .int tnv8, .ref tn_9, .ref tn_10, .int tnv11, .ref tn_12, .ref tn_13, .ref tn_14, .ref tn_15, .int tnv16, .ref tn_17, .ref tn_18, .ref tnt])), (tn_3, .inl (k 0, 10, .inl tng3)), (tn_4, .inl (k 0, 10, .inl tng4)), (tn_5, .inl (k 0, 10, .inl tng5)), (tn_6, .inl (k 0, 10, .inl tng6)), (tn_9, .inl (k 0, 4, .inl tng9)), (tn_10, .inl (k 0, 4, .inl tng10))]) [0, 3, 4, 1, 5, 6, 7, 8, 2, 9, 10] (by decide) rfl
    exact W.vret hx hb hr (fun tZ ht hW => ⟨⟨(o_5, o_6, o_7, obg1), rfl, hw_9, by rw [ht]; exact hP9, va_K.moved hW.alike hK, hD9⟩, hS.F ht⟩) hS.2.2 dX3_weighLanes_33
set_option maxHeartbeats 4000000 in
set_option maxRecDepth 100000 in
theorem c_X3_weighLanes_6 (l : Launch) (D : va_G) (k : Nat → ClassId) (ob : Nat) (tn : Nat) (p1 : Int32) (p2 : Int32) (p3 : Int32) (p4 : Int64) (oba : Nat) (ob_1 : Nat) (oba_0 : Nat) (obav1 : Int32) (obav2 : Int32) (obag0 : Nat → Int32) (obg1 : Nat → Int64) (tnv0 : Int32) (tnv1 : Int32) (tnv2 : Int32) (tn_3 : Nat) (tn_4 : Nat) (tn_5 : Nat) (tn_6 : Nat) (tnv7 : Int32) (tnv8 : Int32) (tn_9 : Nat) (tn_10 : Nat) (tnv11 : Int32) (tn_12 : Nat) (tn_13 : Nat) (tn_14 : Nat) (tn_15 : Nat) (tnv16 : Int32) (tn_17 : Nat) (tn_18 : Nat) (tnt : Nat) (tng3 : Nat → Int32) (tng4 : Nat → Int32) (tng5 : Nat → Int32) (tng6 : Nat → Int32) (tng9 : Nat → Int32) (tng10 : Nat → Int32) (sz : Nat) (h_p1 : 0 ≤ p1.toInt ∧ p1.toInt ≤ 7) (hp_obag0_0 : PR 8 1 0 0 1000000 obag0) (h_tnv0 : 0 ≤ tnv0.toInt ∧ tnv0.toInt ≤ 8) (h_tnv2 : 0 ≤ tnv2.toInt ∧ tnv2.toInt ≤ 10) (h_tnv8 : 0 ≤ tnv8.toInt ∧ tnv8.toInt ≤ 4) (h_tnv11 : 0 ≤ tnv11.toInt ∧ tnv11.toInt ≤ 6) (h_tnv16 : 0 ≤ tnv16.toInt ∧ tnv16.toInt ≤ 2) (hp_tng3_0 : PR 10 1 0 0 7 tng3) (hp_tng4_0 : PR 10 1 0 0 7 tng4) (hp_tng5_0 : PR 10 1 0 0 60 tng5) (hp_tng6_0 : PR 10 1 0 0 10 tng6) (hp_tng9_0 : PR 4 1 0 0 7 tng9) (hp_tng10_0 : PR 4 1 0 0 99 tng10) : Met l yX3_weighLanes (ww yX3_weighLanes cX3_weighLanes 14 none) ({ frames := 10, cells := 0, slots := 0, locals := 298 }) (Pre0 D k [(ob, .inr (3, [.ref oba, .ref ob_1])), (oba, .inr (1, [.ref oba_0, .int obav1, .int obav2])), (oba_0, .inl (k 0, 8, .inl obag0)), (ob_1, .inl (k 2, 1000, .inr (.inl obg1))), (tn, .inr (10, [.int tnv0, .int tnv1, .int tnv2, .ref tn_3, .ref tn_4, .ref tn_5, .ref tn_6, .int tnv7, .int tnv8, .ref tn_9, .ref tn_10, .int tnv11, .ref tn_12, .ref tn_13, .ref tn_14, .ref tn_15, .int tnv16, .ref tn_17, .ref tn_18, .ref tnt])), (tn_3, .inl (k 0, 10, .inl tng3)), (tn_4, .inl (k 0, 10, .inl tng4)), (tn_5, .inl (k 0, 10, .inl tng5)), (tn_6, .inl (k 0, 10, .inl tng6)), (tn_9, .inl (k 0, 4, .inl tng9)), (tn_10, .inl (k 0, 4, .inl tng10))] sz [.ref ob, .ref tn, .int p1, .int p2, .int p3, .long p4, .int 4]) (va_Qv (fun (u : Int32 × Int32 × (Nat → Int32) × (Nat → Int64)) => match u with | (obav1z, obav2z, obag0z, obg1z) => (PR 8 1 0 0 1000000 obag0z)) (fun (u : Int32 × Int32 × (Nat → Int32) × (Nat → Int64)) tZ => match u with | (obav1z, obav2z, obag0z, obg1z) => Bw D k (va_A [(ob, .inr (3, [.ref oba, .ref ob_1])), (oba, .inr (1, [.ref oba_0, .int obav1, .int obav2])), (oba_0, .inl (k 0, 8, .inl obag0)), (ob_1, .inl (k 2, 1000, .inr (.inl obg1))), (tn, .inr (10, [.int tnv0, .int tnv1, .int tnv2, .ref tn_3, .ref tn_4, .ref tn_5, .ref tn_6, .int tnv7, .int tnv8, .ref tn_9, .ref tn_10, .int tnv11, .ref tn_12, .ref tn_13, .ref tn_14, .ref tn_15, .int tnv16, .ref tn_17, .ref tn_18, .ref tnt])), (tn_3, .inl (k 0, 10, .inl tng3)), (tn_4, .inl (k 0, 10, .inl tng4)), (tn_5, .inl (k 0, 10, .inl tng5)), (tn_6, .inl (k 0, 10, .inl tng6)), (tn_9, .inl (k 0, 4, .inl tng9)), (tn_10, .inl (k 0, 4, .inl tng10))] sz) [(ob, .inr (3, [.ref oba, .ref ob_1])), (oba, .inr (1, [.ref oba_0, .int obav1z, .int obav2z])), (oba_0, .inl (k 0, 8, .inl obag0z)), (ob_1, .inl (k 2, 1000, .inr (.inl obg1z))), (tn, .inr (10, [.int tnv0, .int tnv1, .int tnv2, .ref tn_3, .ref tn_4, .ref tn_5, .ref tn_6, .int tnv7, .int tnv8, .ref tn_9, .ref tn_10, .int tnv11, .ref tn_12, .ref tn_13, .ref tn_14, .ref tn_15, .int tnv16, .ref tn_17, .ref tn_18, .ref tnt])), (tn_3, .inl (k 0, 10, .inl tng3)), (tn_4, .inl (k 0, 10, .inl tng4)), (tn_5, .inl (k 0, 10, .inl tng5)), (tn_6, .inl (k 0, 10, .inl tng6)), (tn_9, .inl (k 0, 4, .inl tng9)), (tn_10, .inl (k 0, 4, .inl tng10))] tZ) (va_A [(ob, .inr (3, [.ref oba, .ref ob_1])), (oba, .inr (1, [.ref oba_0, .int obav1, .int obav2])), (oba_0, .inl (k 0, 8, .inl obag0)), (ob_1, .inl (k 2, 1000, .inr (.inl obg1))), (tn, .inr (10, [.int tnv0, .int tnv1, .int tnv2, .ref tn_3, .ref tn_4, .ref tn_5, .ref tn_6, .int tnv7, .int tnv8, .ref tn_9, .ref tn_10, .int tnv11, .ref tn_12, .ref tn_13, .ref tn_14, .ref tn_15, .int tnv16, .ref tn_17, .ref tn_18, .ref tnt])), (tn_3, .inl (k 0, 10, .inl tng3)), (tn_4, .inl (k 0, 10, .inl tng4)), (tn_5, .inl (k 0, 10, .inl tng5)), (tn_6, .inl (k 0, 10, .inl tng6)), (tn_9, .inl (k 0, 4, .inl tng9)), (tn_10, .inl (k 0, 4, .inl tng10))] sz)) 0 0 (va_A [(ob, .inr (3, [.ref oba, .ref ob_1])), (oba, .inr (1, [.ref oba_0, .int obav1, .int obav2])), (oba_0, .inl (k 0, 8, .inl obag0)), (ob_1, .inl (k 2, 1000, .inr (.inl obg1))), (tn, .inr (10, [.int tnv0, .int tnv1, .int tnv2, .ref tn_3, .ref tn_4, .ref tn_5, .ref tn_6, .int tnv7, .int tnv8, .ref tn_9, .ref tn_10, .int tnv11, .ref tn_12, .ref tn_13, .ref tn_14, .ref tn_15, .int tnv16, .ref tn_17, .ref tn_18, .ref tnt])), (tn_3, .inl (k 0, 10, .inl tng3)), (tn_4, .inl (k 0, 10, .inl tng4)), (tn_5, .inl (k 0, 10, .inl tng5)), (tn_6, .inl (k 0, 10, .inl tng6)), (tn_9, .inl (k 0, 4, .inl tng9)), (tn_10, .inl (k 0, 4, .inl tng10))] sz) := by
  refine Met.ofW (cc := cX3_weighLanes) (maxL := 14) (ret := none) (by decide +kernel) rfl ?_
  intro p e s m args below meth c s₁ B hml hv
  obtain ⟨rfl, hsz, hP, hK, hD0, hN⟩ := hv
  have hx := B.exec
  have hb := B.bytes
  have hr := B.returns
  have hts : ∀ w ∈ TT, w.before _ s = true := fun w h => atoms_spec (ws := ww yX3_weighLanes cX3_weighLanes 14 none) B.pre w (List.mem_cons_of_mem _ h)
  have hown : s.vm.findClass RX3 = some m.cls := findClass_of_methodNamed B.named
  have hlocks := B.notSynchronized
  subst hsz
  have hD := hD0.self (sz := s.heap.size)
  generalize hAe : va_A [(ob, .inr (3, [.ref oba, .ref ob_1])), (oba, .inr (1, [.ref oba_0, .int obav1, .int obav2])), (oba_0, .inl (k 0, 8, .inl obag0)), (ob_1, .inl (k 2, 1000, .inr (.inl obg1))), (tn, .inr (10, [.int tnv0, .int tnv1, .int tnv2, .ref tn_3, .ref tn_4, .ref tn_5, .ref tn_6, .int tnv7, .int tnv8, .ref tn_9, .ref tn_10, .int tnv11, .ref tn_12, .ref tn_13, .ref tn_14, .ref tn_15, .int tnv16, .ref tn_17, .ref tn_18, .ref tnt])), (tn_3, .inl (k 0, 10, .inl tng3)), (tn_4, .inl (k 0, 10, .inl tng4)), (tn_5, .inl (k 0, 10, .inl tng5)), (tn_6, .inl (k 0, 10, .inl tng6)), (tn_9, .inl (k 0, 4, .inl tng9)), (tn_10, .inl (k 0, 4, .inl tng10))] s.heap.size = A at hD ⊢
  have hA : ∀ q : Nat, s.heap.size ≤ q → A q := fun q h => by rw [← hAe]; exact Or.inr h
  have hS : va_S A s.heap s.heap [] := va_S.rf
  have hl := lv_entry ([.ref ob, .ref tn, .int p1, .int p2, .int p3, .long p4, .int 4]) (n := 14) (Nat.le_of_ble_eq_true rfl)
  rw [lg_entry_eq]
  generalize (lg_sl ([.ref ob, .ref tn, .int p1, .int p2, .int p3, .long p4, .int 4]) ++ List.replicate (14 - (lg_sl ([.ref ob, .ref tn, .int p1, .int p2, .int p3, .long p4, .int 4])).length) Slot.unset).toArray = ls at hl ⊢
  have hl : lv_has ls 14 [(0, .ref ob), (1, .ref tn), (2, .int p1), (3, .int p2), (4, .int p3), (5, .long p4), (7, .int 4)] := hl
  refine lv_aload_n hx hb dX3_weighLanes_0 rfl (lv_at hl 0 rfl) ?_
  refine va_get (D := D) (ci := 3) (v := .ref oba) (C := RX3) (T := TX3) (N := 2) hx hb hts iT_X3 hown hK hP 0 rfl rfl 0 (by decide) (hts _ tw_2_163) (fun _ h9 => h9) rfl dX3_weighLanes_1 ?_
  refine lv_aload_n hx hb dX3_weighLanes_4 rfl (lv_at hl 1 rfl) ?_
  refine lv_aload_n hx hb dX3_weighLanes_5 rfl (lv_at hl 1 rfl) ?_
  have hPc := hP.sub (ws' := [(tn, .inr (10, [.int tnv0, .int tnv1, .int tnv2, .ref tn_3, .ref tn_4, .ref tn_5, .ref tn_6, .int tnv7, .int tnv8, .ref tn_9, .ref tn_10, .int tnv11, .ref tn_12, .ref tn_13, .ref tn_14, .ref tn_15, .int tnv16, .ref tn_17, .ref tn_18, .ref tnt]))]) [4] rfl
  have hDc := hD.sub (ws' := [(tn, .inr (10, [.int tnv0, .int tnv1, .int tnv2, .ref tn_3, .ref tn_4, .ref tn_5, .ref tn_6, .int tnv7, .int tnv8, .ref tn_9, .ref tn_10, .int tnv11, .ref tn_12, .ref tn_13, .ref tn_14, .ref tn_15, .int tnv16, .ref tn_17, .ref tn_18, .ref tnt]))]) [4] (by decide) rfl
  have hFc := va_free (wc := [(tn, .inr (10, [.int tnv0, .int tnv1, .int tnv2, .ref tn_3, .ref tn_4, .ref tn_5, .ref tn_6, .int tnv7, .int tnv8, .ref tn_9, .ref tn_10, .int tnv11, .ref tn_12, .ref tn_13, .ref tn_14, .ref tn_15, .int tnv16, .ref tn_17, .ref tn_18, .ref tnt]))]) hD hS hA [4] rfl
  refine va_calli (va_runV (C := RX10) (As := []) (rest := [.ref tn, .ref oba]) ⟨hx, hb, hml, hown, hts⟩ (c_X10_openLanes l D k tn tnv0 tnv1 tnv2 tn_3 tn_4 tn_5 tn_6 tnv7 tnv8 tn_9 tn_10 tnv11 tn_12 tn_13 tn_14 tn_15 tnv16 tn_17 tn_18 tnt s.heap.size (show 0 ≤ tnv0.toInt ∧ tnv0.toInt ≤ 8 from by omega) (show 0 ≤ tnv2.toInt ∧ tnv2.toInt ≤ 10 from by omega) (show 0 ≤ tnv8.toInt ∧ tnv8.toInt ≤ 4 from by omega) (show 0 ≤ tnv11.toInt ∧ tnv11.toInt ≤ 6 from by omega) (show 0 ≤ tnv16.toInt ∧ tnv16.toInt ≤ 2 from by omega)) (cwV 0 hts (gV tw_5_155 tw_3_180 tw_3_181 tw_1_3 tw_3_182) rfl rfl rfl hdV_X10_openLanes ⟨Nat.le_of_ble_eq_true rfl, Nat.le_of_ble_eq_true rfl⟩) (cz_V hK hPc hDc hN (ci := 10) (q0 := 0) rfl rfl []) rfl rfl hl.1 rfl (lv_room (Nat.le_of_ble_eq_true rfl)) dX3_weighLanes_6 ⟨Nat.le_of_ble_eq_true rfl, Nat.le_of_ble_eq_true rfl⟩) hS (fun q _ h => hFc q h) hFc (fun r_1 uZ tZ H1 locs ht hvm hw hB hz1 hk1 hS => ?_)
  obtain ⟨hP1, hK1, hD1⟩ := hB
  rw [ht] at hP1
  obtain ⟨hP, hD⟩ := va_join (wr := [(ob, .inr (3, [.ref oba, .ref ob_1])), (oba, .inr (1, [.ref oba_0, .int obav1, .int obav2])), (oba_0, .inl (k 0, 8, .inl obag0)), (ob_1, .inl (k 2, 1000, .inr (.inl obg1))), (tn_3, .inl (k 0, 10, .inl tng3)), (tn_4, .inl (k 0, 10, .inl tng4)), (tn_5, .inl (k 0, 10, .inl tng5)), (tn_6, .inl (k 0, 10, .inl tng6)), (tn_9, .inl (k 0, 4, .inl tng9)), (tn_10, .inl (k 0, 4, .inl tng10))]) (w1 := [(tn, .inr (10, [.int tnv0, .int tnv1, .int tnv2, .ref tn_3, .ref tn_4, .ref tn_5, .ref tn_6, .int tnv7, .int tnv8, .ref tn_9, .ref tn_10, .int tnv11, .ref tn_12, .ref tn_13, .ref tn_14, .ref tn_15, .int tnv16, .ref tn_17, .ref tn_18, .ref tnt]))]) hP hD [4] [0, 1, 2, 3, 5, 6, 7, 8, 9, 10] rfl rfl (by decide) (by decide) hk1 hFc hP1 hD1
  clear hK1 hP1 hD1 hPc hDc hFc
  clear hk1 hz1 ht hvm
  have hP : va_P D vwCl [(ob, .inr (3, [.ref oba, .ref ob_1])), (oba, .inr (1, [.ref oba_0, .int obav1, .int obav2])), (oba_0, .inl (k 0, 8, .inl obag0)), (ob_1, .inl (k 2, 1000, .inr (.inl obg1))), (tn_3, .inl (k 0, 10, .inl tng3)), (tn_4, .inl (k 0, 10, .inl tng4)), (tn_5, .inl (k 0, 10, .inl tng5)), (tn_6, .inl (k 0, 10, .inl tng6)), (tn_9, .inl (k 0, 4, .inl tng9)), (tn_10, .inl (k 0, 4, .inl tng10)), (tn, .inr (10, [.int tnv0, .int tnv1, .int tnv2, .ref tn_3, .ref tn_4, .ref tn_5, .ref tn_6, .int tnv7, .int tnv8, .ref tn_9, .ref tn_10, .int tnv11, .ref tn_12, .ref tn_13, .ref tn_14, .ref tn_15, .int tnv16, .ref tn_17, .ref tn_18, .ref tnt]))] H1 := hP
  have hD : va_D A [(ob, .inr (3, [.ref oba, .ref ob_1])), (oba, .inr (1, [.ref oba_0, .int obav1, .int obav2])), (oba_0, .inl (k 0, 8, .inl obag0)), (ob_1, .inl (k 2, 1000, .inr (.inl obg1))), (tn_3, .inl (k 0, 10, .inl tng3)), (tn_4, .inl (k 0, 10, .inl tng4)), (tn_5, .inl (k 0, 10, .inl tng5)), (tn_6, .inl (k 0, 10, .inl tng6)), (tn_9, .inl (k 0, 4, .inl tng9)), (tn_10, .inl (k 0, 4, .inl tng10)), (tn, .inr (10, [.int tnv0, .int tnv1, .int tnv2, .ref tn_3, .ref tn_4, .ref tn_5, .ref tn_6, .int tnv7, .int tnv8, .ref tn_9, .ref tn_10, .int tnv11, .ref tn_12, .ref tn_13, .ref tn_14, .ref tn_15, .int tnv16, .ref tn_17, .ref tn_18, .ref tnt]))] := hD
  generalize H1 = H at hP hS ⊢
  have hw_2 : (0 ≤ r_1.toInt ∧ r_1.toInt ≤ 1023) := hw
  have hw_3 := hw_2
  clear hw
  refine lv_iload hx hb dX3_weighLanes_9 (lv_at hl 4 rfl) ?_
  have hPc := hP.sub (ws' := [(oba, .inr (1, [.ref oba_0, .int obav1, .int obav2])), (oba_0, .inl (k 0, 8, .inl obag0)), (tn, .inr (10, [.int tnv0, .int tnv1, .int tnv2, .ref tn_3, .ref tn_4, .ref tn_5, .ref tn_6, .int tnv7, .int tnv8, .ref tn_9, .ref tn_10, .int tnv11, .ref tn_12, .ref tn_13, .ref tn_14, .ref tn_15, .int tnv16, .ref tn_17, .ref tn_18, .ref tnt])), (tn_3, .inl (k 0, 10, .inl tng3)), (tn_4, .inl (k 0, 10, .inl tng4)), (tn_5, .inl (k 0, 10, .inl tng5)), (tn_9, .inl (k 0, 4, .inl tng9)), (tn_10, .inl (k 0, 4, .inl tng10))]) [1, 2, 10, 4, 5, 6, 8, 9] rfl
  have hDc := hD.sub (ws' := [(oba, .inr (1, [.ref oba_0, .int obav1, .int obav2])), (oba_0, .inl (k 0, 8, .inl obag0)), (tn, .inr (10, [.int tnv0, .int tnv1, .int tnv2, .ref tn_3, .ref tn_4, .ref tn_5, .ref tn_6, .int tnv7, .int tnv8, .ref tn_9, .ref tn_10, .int tnv11, .ref tn_12, .ref tn_13, .ref tn_14, .ref tn_15, .int tnv16, .ref tn_17, .ref tn_18, .ref tnt])), (tn_3, .inl (k 0, 10, .inl tng3)), (tn_4, .inl (k 0, 10, .inl tng4)), (tn_5, .inl (k 0, 10, .inl tng5)), (tn_9, .inl (k 0, 4, .inl tng9)), (tn_10, .inl (k 0, 4, .inl tng10))]) [1, 2, 10, 4, 5, 6, 8, 9] (by decide) rfl
  have hFc := va_free (wc := [(oba, .inr (1, [.ref oba_0, .int obav1, .int obav2])), (oba_0, .inl (k 0, 8, .inl obag0)), (tn, .inr (10, [.int tnv0, .int tnv1, .int tnv2, .ref tn_3, .ref tn_4, .ref tn_5, .ref tn_6, .int tnv7, .int tnv8, .ref tn_9, .ref tn_10, .int tnv11, .ref tn_12, .ref tn_13, .ref tn_14, .ref tn_15, .int tnv16, .ref tn_17, .ref tn_18, .ref tnt])), (tn_3, .inl (k 0, 10, .inl tng3)), (tn_4, .inl (k 0, 10, .inl tng4)), (tn_5, .inl (k 0, 10, .inl tng5)), (tn_9, .inl (k 0, 4, .inl tng9)), (tn_10, .inl (k 0, 4, .inl tng10))]) hD hS hA [1, 2, 10, 4, 5, 6, 8, 9] rfl
  refine va_callv (va_runV (C := RX1) (As := [.ref tn, .int r_1, .int p3]) (rest := []) ⟨hx, hb, hml, hown, hts⟩ (c_X1_fall l D k oba tn r_1 p3 oba_0 obav1 obav2 obag0 tnv0 tnv1 tnv2 tn_3 tn_4 tn_5 tn_6 tnv7 tnv8 tn_9 tn_10 tnv11 tn_12 tn_13 tn_14 tn_15 tnv16 tn_17 tn_18 tnt tng3 tng4 tng5 tng9 tng10 H.size hp_obag0_0 (show 0 ≤ tnv0.toInt ∧ tnv0.toInt ≤ 8 from by omega) (show 0 ≤ tnv2.toInt ∧ tnv2.toInt ≤ 10 from by omega) (show 0 ≤ tnv8.toInt ∧ tnv8.toInt ≤ 4 from by omega) (show 0 ≤ tnv11.toInt ∧ tnv11.toInt ≤ 6 from by omega) (show 0 ≤ tnv16.toInt ∧ tnv16.toInt ≤ 2 from by omega) hp_tng3_0 hp_tng4_0 hp_tng5_0 hp_tng9_0 hp_tng10_0) (cwV 3 hts (gV tw_5_156 tw_3_184 tw_3_185 tw_1_6 tw_3_186) rfl rfl rfl hdV_X1_fall ⟨Nat.le_of_ble_eq_true rfl, Nat.le_of_ble_eq_true rfl⟩) (cz_V hK hPc hDc hN (ci := 1) (q0 := 0) rfl rfl [.ref tn, .int r_1, .int p3]) rfl rfl hl.1 rfl (lv_room (Nat.le_of_ble_eq_true rfl)) dX3_weighLanes_11 ⟨Nat.le_of_ble_eq_true rfl, Nat.le_of_ble_eq_true rfl⟩) hS (fun q _ h => hFc q h) hFc (fun uZ tZ H1 locs ht hvm hw hB hz1 hk1 hS => ?_)
  obtain ⟨o_5, o_6, o_7⟩ := uZ
  obtain ⟨hP1, hK1, hD1⟩ := hB
  rw [ht] at hP1
  obtain ⟨hP, hD⟩ := va_join (wr := [(ob, .inr (3, [.ref oba, .ref ob_1])), (ob_1, .inl (k 2, 1000, .inr (.inl obg1))), (tn_6, .inl (k 0, 10, .inl tng6))]) (w1 := [(oba, .inr (1, [.ref oba_0, .int o_5, .int o_6])), (oba_0, .inl (k 0, 8, .inl o_7)), (tn, .inr (10, [.int tnv0, .int tnv1, .int tnv2, .ref tn_3, .ref tn_4, .ref tn_5, .ref tn_6, .int tnv7, .int tnv8, .ref tn_9, .ref tn_10, .int tnv11, .ref tn_12, .ref tn_13, .ref tn_14, .ref tn_15, .int tnv16, .ref tn_17, .ref tn_18, .ref tnt])), (tn_3, .inl (k 0, 10, .inl tng3)), (tn_4, .inl (k 0, 10, .inl tng4)), (tn_5, .inl (k 0, 10, .inl tng5)), (tn_9, .inl (k 0, 4, .inl tng9)), (tn_10, .inl (k 0, 4, .inl tng10))]) hP hD [1, 2, 10, 4, 5, 6, 8, 9] [0, 3, 7] rfl rfl (by decide) (by decide) hk1 hFc hP1 hD1
  clear hK1 hP1 hD1 hPc hDc hFc
  clear hk1 hz1 ht hvm
  have hP : va_P D vwCl [(ob, .inr (3, [.ref oba, .ref ob_1])), (ob_1, .inl (k 2, 1000, .inr (.inl obg1))), (tn_6, .inl (k 0, 10, .inl tng6)), (oba, .inr (1, [.ref oba_0, .int o_5, .int o_6])), (oba_0, .inl (k 0, 8, .inl o_7)), (tn, .inr (10, [.int tnv0, .int tnv1, .int tnv2, .ref tn_3, .ref tn_4, .ref tn_5, .ref tn_6, .int tnv7, .int tnv8, .ref tn_9, .ref tn_10, .int tnv11, .ref tn_12, .ref tn_13, .ref tn_14, .ref tn_15, .int tnv16, .ref tn_17, .ref tn_18, .ref tnt])), (tn_3, .inl (k 0, 10, .inl tng3)), (tn_4, .inl (k 0, 10, .inl tng4)), (tn_5, .inl (k 0, 10, .inl tng5)), (tn_9, .inl (k 0, 4, .inl tng9)), (tn_10, .inl (k 0, 4, .inl tng10))] H1 := hP
  have hD : va_D A [(ob, .inr (3, [.ref oba, .ref ob_1])), (ob_1, .inl (k 2, 1000, .inr (.inl obg1))), (tn_6, .inl (k 0, 10, .inl tng6)), (oba, .inr (1, [.ref oba_0, .int o_5, .int o_6])), (oba_0, .inl (k 0, 8, .inl o_7)), (tn, .inr (10, [.int tnv0, .int tnv1, .int tnv2, .ref tn_3, .ref tn_4, .ref tn_5, .ref tn_6, .int tnv7, .int tnv8, .ref tn_9, .ref tn_10, .int tnv11, .ref tn_12, .ref tn_13, .ref tn_14, .ref tn_15, .int tnv16, .ref tn_17, .ref tn_18, .ref tnt])), (tn_3, .inl (k 0, 10, .inl tng3)), (tn_4, .inl (k 0, 10, .inl tng4)), (tn_5, .inl (k 0, 10, .inl tng5)), (tn_9, .inl (k 0, 4, .inl tng9)), (tn_10, .inl (k 0, 4, .inl tng10))] := hD
  generalize H1 = H at hP hS ⊢
  have hw_8 : (PR 8 1 0 0 1000000 o_7) := hw
  have hw_9 := hw_8
  clear hw
  refine lv_aload_n hx hb dX3_weighLanes_14 rfl (lv_at hl 0 rfl) ?_
  refine va_get (D := D) (ci := 3) (v := .ref oba) (C := RX3) (T := TX3) (N := 2) hx hb hts iT_X3 hown hK hP 0 rfl rfl 0 (by decide) (hts _ tw_2_163) (fun _ h9 => h9) rfl dX3_weighLanes_15 ?_
  refine va_get (D := D) (ci := 1) (v := .ref oba_0) (C := RX1) (T := TX1) (N := 3) hx hb hts iT_X1 hown hK hP 3 rfl rfl 0 (by decide) (hts _ tw_2_21) (fun _ h9 => h9) rfl dX3_weighLanes_18 ?_
  refine lv_iload_n hx hb dX3_weighLanes_21 rfl (lv_at hl 2 rfl) ?_
  refine va_iald hx hb hK hP 4 0 rfl rfl (z_in (by omega) (by omega)) dX3_weighLanes_22 ?_
  refine lv_topi (fun x_10 ex_10 => ?_)
  have zx_10r0 : 0 ≤ x_10.toInt ∧ x_10.toInt ≤ 1000000 := by rw [ex_10]; exact PR.ld hw_9 (by omega) (by omega) (by omega)
  refine lv_istore (lv' := [(8, .int x_10), (0, .ref ob), (1, .ref tn), (2, .int p1), (3, .int p2), (4, .int p3), (5, .long p4), (7, .int 4)]) hx hb dX3_weighLanes_23 hl (by decide) rfl (fun ls hl => ?_)
  refine lv_iload hx hb dX3_weighLanes_25 (lv_at hl 0 rfl) ?_
  refine lv_sipush (v := 1000) hx hb dX3_weighLanes_27 (by decide) ?_
  refine lv_icmp_lt (tgt := 34) hx hb dX3_weighLanes_30 (by decide) (fun h_11 => ?_) (fun h_11 => ?_)
  · skip
    have zh_11 : x_10.toInt < 1000 := z_lt h_11
    refine lv_aload_n hx hb dX3_weighLanes_34 rfl (lv_at hl 1 rfl) ?_
    refine va_get (D := D) (ci := 3) (v := .ref oba) (C := RX3) (T := TX3) (N := 2) hx hb hts iT_X3 hown hK hP 0 rfl rfl 0 (by decide) (hts _ tw_2_163) (fun _ h9 => h9) rfl dX3_weighLanes_35 ?_
    refine lv_aload_n hx hb dX3_weighLanes_38 rfl (lv_at hl 2 rfl) ?_
    refine lv_iload_n hx hb dX3_weighLanes_39 rfl (lv_at hl 3 rfl) ?_
    have hPc := hP.sub (ws' := [(oba, .inr (1, [.ref oba_0, .int o_5, .int o_6])), (oba_0, .inl (k 0, 8, .inl o_7)), (tn, .inr (10, [.int tnv0, .int tnv1, .int tnv2, .ref tn_3, .ref tn_4, .ref tn_5, .ref tn_6, .int tnv7, .int tnv8, .ref tn_9, .ref tn_10, .int tnv11, .ref tn_12, .ref tn_13, .ref tn_14, .ref tn_15, .int tnv16, .ref tn_17, .ref tn_18, .ref tnt])), (tn_3, .inl (k 0, 10, .inl tng3)), (tn_4, .inl (k 0, 10, .inl tng4)), (tn_5, .inl (k 0, 10, .inl tng5)), (tn_9, .inl (k 0, 4, .inl tng9)), (tn_10, .inl (k 0, 4, .inl tng10))]) [3, 4, 5, 6, 7, 8, 9, 10] rfl
    have hDc := hD.sub (ws' := [(oba, .inr (1, [.ref oba_0, .int o_5, .int o_6])), (oba_0, .inl (k 0, 8, .inl o_7)), (tn, .inr (10, [.int tnv0, .int tnv1, .int tnv2, .ref tn_3, .ref tn_4, .ref tn_5, .ref tn_6, .int tnv7, .int tnv8, .ref tn_9, .ref tn_10, .int tnv11, .ref tn_12, .ref tn_13, .ref tn_14, .ref tn_15, .int tnv16, .ref tn_17, .ref tn_18, .ref tnt])), (tn_3, .inl (k 0, 10, .inl tng3)), (tn_4, .inl (k 0, 10, .inl tng4)), (tn_5, .inl (k 0, 10, .inl tng5)), (tn_9, .inl (k 0, 4, .inl tng9)), (tn_10, .inl (k 0, 4, .inl tng10))]) [3, 4, 5, 6, 7, 8, 9, 10] (by decide) rfl
    have hFc := va_free (wc := [(oba, .inr (1, [.ref oba_0, .int o_5, .int o_6])), (oba_0, .inl (k 0, 8, .inl o_7)), (tn, .inr (10, [.int tnv0, .int tnv1, .int tnv2, .ref tn_3, .ref tn_4, .ref tn_5, .ref tn_6, .int tnv7, .int tnv8, .ref tn_9, .ref tn_10, .int tnv11, .ref tn_12, .ref tn_13, .ref tn_14, .ref tn_15, .int tnv16, .ref tn_17, .ref tn_18, .ref tnt])), (tn_3, .inl (k 0, 10, .inl tng3)), (tn_4, .inl (k 0, 10, .inl tng4)), (tn_5, .inl (k 0, 10, .inl tng5)), (tn_9, .inl (k 0, 4, .inl tng9)), (tn_10, .inl (k 0, 4, .inl tng10))]) hD hS hA [3, 4, 5, 6, 7, 8, 9, 10] rfl
    refine va_calli (va_runV (C := RX1) (As := [.ref tn, .int p1]) (rest := []) ⟨hx, hb, hml, hown, hts⟩ (c_X1_wayTo l D k oba tn p1 oba_0 o_5 o_6 o_7 tnv0 tnv1 tnv2 tn_3 tn_4 tn_5 tn_6 tnv7 tnv8 tn_9 tn_10 tnv11 tn_12 tn_13 tn_14 tn_15 tnv16 tn_17 tn_18 tnt tng3 tng4 tng5 tng9 tng10 H.size (show 0 ≤ p1.toInt ∧ p1.toInt ≤ 7 from by omega) hw_9 (show 0 ≤ tnv0.toInt ∧ tnv0.toInt ≤ 8 from by omega) (show 0 ≤ tnv2.toInt ∧ tnv2.toInt ≤ 10 from by omega) (show 0 ≤ tnv8.toInt ∧ tnv8.toInt ≤ 4 from by omega) (show 0 ≤ tnv11.toInt ∧ tnv11.toInt ≤ 6 from by omega) (show 0 ≤ tnv16.toInt ∧ tnv16.toInt ≤ 2 from by omega) hp_tng3_0 hp_tng4_0 hp_tng5_0 hp_tng9_0 hp_tng10_0) (cwV 2 hts (gV tw_5_157 tw_4_96 tw_4_97 tw_1_6 tw_4_98) rfl rfl rfl hdV_X1_wayTo ⟨Nat.le_of_ble_eq_true rfl, Nat.le_of_ble_eq_true rfl⟩) (cz_V hK hPc hDc hN (ci := 1) (q0 := 0) rfl rfl [.ref tn, .int p1]) rfl rfl hl.1 rfl (lv_room (Nat.le_of_ble_eq_true rfl)) dX3_weighLanes_40 ⟨Nat.le_of_ble_eq_true rfl, Nat.le_of_ble_eq_true rfl⟩) hS (fun q _ h => hFc q h) hFc (fun r_12 uZ tZ H1 locs ht hvm hw hB hz1 hk1 hS => ?_)
    obtain ⟨hP1, hK1, hD1⟩ := hB
    rw [ht] at hP1
    obtain ⟨hP, hD⟩ := va_join (wr := [(ob, .inr (3, [.ref oba, .ref ob_1])), (ob_1, .inl (k 2, 1000, .inr (.inl obg1))), (tn_6, .inl (k 0, 10, .inl tng6))]) (w1 := [(oba, .inr (1, [.ref oba_0, .int o_5, .int o_6])), (oba_0, .inl (k 0, 8, .inl o_7)), (tn, .inr (10, [.int tnv0, .int tnv1, .int tnv2, .ref tn_3, .ref tn_4, .ref tn_5, .ref tn_6, .int tnv7, .int tnv8, .ref tn_9, .ref tn_10, .int tnv11, .ref tn_12, .ref tn_13, .ref tn_14, .ref tn_15, .int tnv16, .ref tn_17, .ref tn_18, .ref tnt])), (tn_3, .inl (k 0, 10, .inl tng3)), (tn_4, .inl (k 0, 10, .inl tng4)), (tn_5, .inl (k 0, 10, .inl tng5)), (tn_9, .inl (k 0, 4, .inl tng9)), (tn_10, .inl (k 0, 4, .inl tng10))]) hP hD [3, 4, 5, 6, 7, 8, 9, 10] [0, 1, 2] rfl rfl (by decide) (by decide) hk1 hFc hP1 hD1
    clear hK1 hP1 hD1 hPc hDc hFc
    clear hk1 hz1 ht hvm
    have hP : va_P D vwCl [(ob, .inr (3, [.ref oba, .ref ob_1])), (ob_1, .inl (k 2, 1000, .inr (.inl obg1))), (tn_6, .inl (k 0, 10, .inl tng6)), (oba, .inr (1, [.ref oba_0, .int o_5, .int o_6])), (oba_0, .inl (k 0, 8, .inl o_7)), (tn, .inr (10, [.int tnv0, .int tnv1, .int tnv2, .ref tn_3, .ref tn_4, .ref tn_5, .ref tn_6, .int tnv7, .int tnv8, .ref tn_9, .ref tn_10, .int tnv11, .ref tn_12, .ref tn_13, .ref tn_14, .ref tn_15, .int tnv16, .ref tn_17, .ref tn_18, .ref tnt])), (tn_3, .inl (k 0, 10, .inl tng3)), (tn_4, .inl (k 0, 10, .inl tng4)), (tn_5, .inl (k 0, 10, .inl tng5)), (tn_9, .inl (k 0, 4, .inl tng9)), (tn_10, .inl (k 0, 4, .inl tng10))] H1 := hP
    have hD : va_D A [(ob, .inr (3, [.ref oba, .ref ob_1])), (ob_1, .inl (k 2, 1000, .inr (.inl obg1))), (tn_6, .inl (k 0, 10, .inl tng6)), (oba, .inr (1, [.ref oba_0, .int o_5, .int o_6])), (oba_0, .inl (k 0, 8, .inl o_7)), (tn, .inr (10, [.int tnv0, .int tnv1, .int tnv2, .ref tn_3, .ref tn_4, .ref tn_5, .ref tn_6, .int tnv7, .int tnv8, .ref tn_9, .ref tn_10, .int tnv11, .ref tn_12, .ref tn_13, .ref tn_14, .ref tn_15, .int tnv16, .ref tn_17, .ref tn_18, .ref tnt])), (tn_3, .inl (k 0, 10, .inl tng3)), (tn_4, .inl (k 0, 10, .inl tng4)), (tn_5, .inl (k 0, 10, .inl tng5)), (tn_9, .inl (k 0, 4, .inl tng9)), (tn_10, .inl (k 0, 4, .inl tng10))] := hD
    generalize H1 = H at hP hS ⊢
    have hw_13 : (0 ≤ r_12.toInt ∧ r_12.toInt ≤ 1023) := hw
    have hw_14 := hw_13
    clear hw
    refine lv_iload_n hx hb dX3_weighLanes_43 rfl (lv_at hl 4 rfl) ?_
    refine lv_iconst (v := (-1)) hx hb dX3_weighLanes_44 (by decide) ?_
    refine lv_ixor hx hb dX3_weighLanes_45 ?_
    refine lv_topi (fun x_15 ex_15 => ?_)
    have zrp2 := z_rng p2
    refine lv_iand hx hb dX3_weighLanes_46 ?_
    refine lv_topi (fun x_16 ex_16 => ?_)
    have zrx_15 := z_rng x_15
    have zx_16 : 0 ≤ x_16.toInt ∧ x_16.toInt ≤ r_12.toInt := by rw [ex_16]; exact z_andL (by omega)
    refine lv_istore (lv' := [(9, .int x_16), (8, .int x_10), (0, .ref ob), (1, .ref tn), (2, .int p1), (3, .int p2), (4, .int p3), (5, .long p4), (7, .int 4)]) hx hb dX3_weighLanes_47 hl (by decide) rfl (fun ls hl => ?_)
    refine lv_iload hx hb dX3_weighLanes_49 (lv_at hl 0 rfl) ?_
    refine lv_iload hx hb dX3_weighLanes_51 (lv_at hl 0 rfl) ?_
    refine lv_ineg hx hb dX3_weighLanes_53 ?_
    refine lv_topi (fun x_17 ex_17 => ?_)
    refine lv_iand hx hb dX3_weighLanes_54 ?_
    refine lv_topi (fun x_18 ex_18 => ?_)
    have zrx_17 := z_rng x_17
    have zx_18 : 0 ≤ x_18.toInt ∧ x_18.toInt ≤ x_16.toInt := by rw [ex_18]; exact z_andL (by omega)
    refine lv_iconst (v := 1) hx hb dX3_weighLanes_55 (by decide) ?_
    refine lv_isub hx hb dX3_weighLanes_56 ?_
    refine lv_topi (fun x_19 ex_19 => ?_)
    have zx_19 : x_19.toInt = x_18.toInt - 1 := by rw [ex_19]; exact z_sub rfl rfl (by omega) (by omega)
    have hPc := hP.sub (ws' := []) [] rfl
    have hDc := hD.sub (ws' := []) [] (by decide) rfl
    have hFc := va_free (wc := []) hD hS hA [] rfl
    refine va_calli (va_runS (As := [.int x_19]) (rest := []) ⟨hx, hb, hml, hown, hts⟩ (c_J6_bitCount_0f7a4 l D k x_19 H.size) (va_cwS 1 hts (gS tw_5_158 tw_4_101 tw_1_20 tw_4_102) rfl rfl rfl hdS_J6_bitCount_0f7a4 ⟨Nat.le_of_ble_eq_true rfl, Nat.le_of_ble_eq_true rfl⟩) (cz_S hK hPc hDc hN [.int x_19]) rfl rfl hl.1 rfl (lv_room (Nat.le_of_ble_eq_true rfl)) dX3_weighLanes_57 ⟨Nat.le_of_ble_eq_true rfl, Nat.le_of_ble_eq_true rfl⟩) hS (fun q _ h => hFc q h) hFc (fun r_20 uZ tZ H1 locs ht hvm hw hB hz1 hk1 hS => ?_)
    obtain ⟨hP1, hK1, hD1⟩ := hB
    rw [ht] at hP1
    obtain ⟨hP, hD⟩ := va_join (wr := [(ob, .inr (3, [.ref oba, .ref ob_1])), (ob_1, .inl (k 2, 1000, .inr (.inl obg1))), (tn_6, .inl (k 0, 10, .inl tng6)), (oba, .inr (1, [.ref oba_0, .int o_5, .int o_6])), (oba_0, .inl (k 0, 8, .inl o_7)), (tn, .inr (10, [.int tnv0, .int tnv1, .int tnv2, .ref tn_3, .ref tn_4, .ref tn_5, .ref tn_6, .int tnv7, .int tnv8, .ref tn_9, .ref tn_10, .int tnv11, .ref tn_12, .ref tn_13, .ref tn_14, .ref tn_15, .int tnv16, .ref tn_17, .ref tn_18, .ref tnt])), (tn_3, .inl (k 0, 10, .inl tng3)), (tn_4, .inl (k 0, 10, .inl tng4)), (tn_5, .inl (k 0, 10, .inl tng5)), (tn_9, .inl (k 0, 4, .inl tng9)), (tn_10, .inl (k 0, 4, .inl tng10))]) (w1 := []) hP hD [] [0, 1, 2, 3, 4, 5, 6, 7, 8, 9, 10] rfl rfl (by decide) (by decide) hk1 hFc hP1 hD1
    clear hK1 hP1 hD1 hPc hDc hFc
    clear hk1 hz1 ht hvm
    have hP : va_P D vwCl [(ob, .inr (3, [.ref oba, .ref ob_1])), (ob_1, .inl (k 2, 1000, .inr (.inl obg1))), (tn_6, .inl (k 0, 10, .inl tng6)), (oba, .inr (1, [.ref oba_0, .int o_5, .int o_6])), (oba_0, .inl (k 0, 8, .inl o_7)), (tn, .inr (10, [.int tnv0, .int tnv1, .int tnv2, .ref tn_3, .ref tn_4, .ref tn_5, .ref tn_6, .int tnv7, .int tnv8, .ref tn_9, .ref tn_10, .int tnv11, .ref tn_12, .ref tn_13, .ref tn_14, .ref tn_15, .int tnv16, .ref tn_17, .ref tn_18, .ref tnt])), (tn_3, .inl (k 0, 10, .inl tng3)), (tn_4, .inl (k 0, 10, .inl tng4)), (tn_5, .inl (k 0, 10, .inl tng5)), (tn_9, .inl (k 0, 4, .inl tng9)), (tn_10, .inl (k 0, 4, .inl tng10))] H1 := hP
    have hD : va_D A [(ob, .inr (3, [.ref oba, .ref ob_1])), (ob_1, .inl (k 2, 1000, .inr (.inl obg1))), (tn_6, .inl (k 0, 10, .inl tng6)), (oba, .inr (1, [.ref oba_0, .int o_5, .int o_6])), (oba_0, .inl (k 0, 8, .inl o_7)), (tn, .inr (10, [.int tnv0, .int tnv1, .int tnv2, .ref tn_3, .ref tn_4, .ref tn_5, .ref tn_6, .int tnv7, .int tnv8, .ref tn_9, .ref tn_10, .int tnv11, .ref tn_12, .ref tn_13, .ref tn_14, .ref tn_15, .int tnv16, .ref tn_17, .ref tn_18, .ref tnt])), (tn_3, .inl (k 0, 10, .inl tng3)), (tn_4, .inl (k 0, 10, .inl tng4)), (tn_5, .inl (k 0, 10, .inl tng5)), (tn_9, .inl (k 0, 4, .inl tng9)), (tn_10, .inl (k 0, 4, .inl tng10))] := hD
    generalize H1 = H at hP hS ⊢
    have hw_21 : (0 ≤ r_20.toInt ∧ r_20.toInt ≤ 63) := hw
    have hw_22 := hw_21
    clear hw
    refine lv_istore (lv' := [(10, .int r_20), (9, .int x_16), (8, .int x_10), (0, .ref ob), (1, .ref tn), (2, .int p1), (3, .int p2), (4, .int p3), (5, .long p4), (7, .int 4)]) hx hb dX3_weighLanes_60 hl (by decide) rfl (fun ls hl => ?_)
    refine lv_iload hx hb dX3_weighLanes_62 (lv_at hl 1 rfl) ?_
    refine lv_if_eq (tgt := 81) hx hb dX3_weighLanes_64 (by decide) (fun h_23 => ?_) (fun h_23 => ?_)
    · skip
      have zh_23 : x_16.toInt = 0 := z_eq h_23
      refine lv_aload_n hx hb dX3_weighLanes_81 rfl (lv_at hl 3 rfl) ?_
      refine va_get (D := D) (ci := 3) (v := .ref ob_1) (C := RX3) (T := TX3) (N := 2) hx hb hts iT_X3 hown hK hP 0 rfl rfl 1 (by decide) (hts _ tw_2_164) (fun _ h9 => h9) rfl dX3_weighLanes_82 ?_
      refine lv_iload hx hb dX3_weighLanes_85 (lv_at hl 2 rfl) ?_
      refine lv_dup2_11 hx hb dX3_weighLanes_87 rfl rfl ?_
      refine va_lald hx hb hK hP 1 2 rfl rfl (z_in (by omega) (by omega)) dX3_weighLanes_88 ?_
      refine lv_topl (fun x_24 ex_24 => ?_)
      refine lv_lload hx hb dX3_weighLanes_89 (lv_at hl 8 rfl) ?_
      refine lv_ladd hx hb dX3_weighLanes_91 ?_
      refine lv_topl (fun x_25 ex_25 => ?_)
      refine va_last hx hb hK hP hD hS 1 2 rfl rfl (z_in (by omega) (by omega)) dX3_weighLanes_92 (fun H locs hP hD hS => ?_)
      obtain ⟨g_26, eg_26⟩ : ∃ z : Nat → Int64, vp_updL obg1 x_10.toNatClampNeg x_25 = z := ⟨_, rfl⟩
      have hP : va_P D vwCl [(ob, .inr (3, [.ref oba, .ref ob_1])), (ob_1, .inl (k 2, 1000, .inr (.inl (vp_updL obg1 x_10.toNatClampNeg x_25)))), (tn_6, .inl (k 0, 10, .inl tng6)), (oba, .inr (1, [.ref oba_0, .int o_5, .int o_6])), (oba_0, .inl (k 0, 8, .inl o_7)), (tn, .inr (10, [.int tnv0, .int tnv1, .int tnv2, .ref tn_3, .ref tn_4, .ref tn_5, .ref tn_6, .int tnv7, .int tnv8, .ref tn_9, .ref tn_10, .int tnv11, .ref tn_12, .ref tn_13, .ref tn_14, .ref tn_15, .int tnv16, .ref tn_17, .ref tn_18, .ref tnt])), (tn_3, .inl (k 0, 10, .inl tng3)), (tn_4, .inl (k 0, 10, .inl tng4)), (tn_5, .inl (k 0, 10, .inl tng5)), (tn_9, .inl (k 0, 4, .inl tng9)), (tn_10, .inl (k 0, 4, .inl tng10))] H := hP
      have hD : va_D A [(ob, .inr (3, [.ref oba, .ref ob_1])), (ob_1, .inl (k 2, 1000, .inr (.inl (vp_updL obg1 x_10.toNatClampNeg x_25)))), (tn_6, .inl (k 0, 10, .inl tng6)), (oba, .inr (1, [.ref oba_0, .int o_5, .int o_6])), (oba_0, .inl (k 0, 8, .inl o_7)), (tn, .inr (10, [.int tnv0, .int tnv1, .int tnv2, .ref tn_3, .ref tn_4, .ref tn_5, .ref tn_6, .int tnv7, .int tnv8, .ref tn_9, .ref tn_10, .int tnv11, .ref tn_12, .ref tn_13, .ref tn_14, .ref tn_15, .int tnv16, .ref tn_17, .ref tn_18, .ref tnt])), (tn_3, .inl (k 0, 10, .inl tng3)), (tn_4, .inl (k 0, 10, .inl tng4)), (tn_5, .inl (k 0, 10, .inl tng5)), (tn_9, .inl (k 0, 4, .inl tng9)), (tn_10, .inl (k 0, 4, .inl tng10))] := hD
      rw [eg_26] at hP hD
      have hP9 := hP.sub (ws' := [(ob, .inr (3, [.ref oba, .ref ob_1])), (oba, .inr (1, [.ref oba_0, .int o_5, .int o_6])), (oba_0, .inl (k 0, 8, .inl o_7)), (ob_1, .inl (k 2, 1000, .inr (.inl g_26))), (tn, .inr (10, [.int tnv0, .int tnv1, .int tnv2, .ref tn_3, .ref tn_4, .ref tn_5, .ref tn_6, .int tnv7, .int tnv8, .ref tn_9, .ref tn_10, .int tnv11, .ref tn_12, .ref tn_13, .ref tn_14, .ref tn_15, .int tnv16, .ref tn_17, .ref tn_18, .ref tnt])), (tn_3, .inl (k 0, 10, .inl tng3)), (tn_4, .inl (k 0, 10, .inl tng4)), (tn_5, .inl (k 0, 10, .inl tng5)), (tn_6, .inl (k 0, 10, .inl tng6)), (tn_9, .inl (k 0, 4, .inl tng9)), (tn_10, .inl (k 0, 4, .inl tng10))]) [0, 3, 4, 1, 5, 6, 7, 8, 2, 9, 10] rfl
      have hD9 := hD.sub (ws' := [(ob, .inr (3, [.ref oba, .ref ob_1])), (oba, .inr (1, [.ref oba_0, .int o_5, .int o_6])), (oba_0, .inl (k 0, 8, .inl o_7)), (ob_1, .inl (k 2, 1000, .inr (.inl g_26))), (tn, .inr (10, [.int tnv0, .int tnv1, .int tnv2, .ref tn_3, .ref tn_4, .ref tn_5, .ref tn_6, .int tnv7, .int tnv8, .ref tn_9, .ref tn_10, .int tnv11, .ref tn_12, .ref tn_13, .ref tn_14, .ref tn_15, .int tnv16, .ref tn_17, .ref tn_18, .ref tnt])), (tn_3, .inl (k 0, 10, .inl tng3)), (tn_4, .inl (k 0, 10, .inl tng4)), (tn_5, .inl (k 0, 10, .inl tng5)), (tn_6, .inl (k 0, 10, .inl tng6)), (tn_9, .inl (k 0, 4, .inl tng9)), (tn_10, .inl (k 0, 4, .inl tng10))]) [0, 3, 4, 1, 5, 6, 7, 8, 2, 9, 10] (by decide) rfl
      exact W.vret hx hb hr (fun tZ ht hW => ⟨⟨(o_5, o_6, o_7, g_26), rfl, hw_9, by rw [ht]; exact hP9, va_K.moved hW.alike hK, hD9⟩, hS.F ht⟩) hS.2.2 dX3_weighLanes_93
    · skip
      have zh_23 : ¬ x_16.toInt = 0 := z_ne h_23
      refine lv_iload hx hb dX3_weighLanes_67 (lv_at hl 0 rfl) ?_
      refine lv_bipush (v := 10) hx hb dX3_weighLanes_69 (by decide) ?_
      refine lv_icmp_ge (tgt := 81) hx hb dX3_weighLanes_71 (by decide) (fun h_27 => ?_) (fun h_27 => ?_)
      · skip
        have zh_27 : 10 ≤ r_20.toInt := z_le h_27
        refine lv_aload_n hx hb dX3_weighLanes_81 rfl (lv_at hl 3 rfl) ?_
        refine va_get (D := D) (ci := 3) (v := .ref ob_1) (C := RX3) (T := TX3) (N := 2) hx hb hts iT_X3 hown hK hP 0 rfl rfl 1 (by decide) (hts _ tw_2_164) (fun _ h9 => h9) rfl dX3_weighLanes_82 ?_
        refine lv_iload hx hb dX3_weighLanes_85 (lv_at hl 2 rfl) ?_
        refine lv_dup2_11 hx hb dX3_weighLanes_87 rfl rfl ?_
        refine va_lald hx hb hK hP 1 2 rfl rfl (z_in (by omega) (by omega)) dX3_weighLanes_88 ?_
        refine lv_topl (fun x_28 ex_28 => ?_)
        refine lv_lload hx hb dX3_weighLanes_89 (lv_at hl 8 rfl) ?_
        refine lv_ladd hx hb dX3_weighLanes_91 ?_
        refine lv_topl (fun x_29 ex_29 => ?_)
        refine va_last hx hb hK hP hD hS 1 2 rfl rfl (z_in (by omega) (by omega)) dX3_weighLanes_92 (fun H locs hP hD hS => ?_)
        obtain ⟨g_30, eg_30⟩ : ∃ z : Nat → Int64, vp_updL obg1 x_10.toNatClampNeg x_29 = z := ⟨_, rfl⟩
        have hP : va_P D vwCl [(ob, .inr (3, [.ref oba, .ref ob_1])), (ob_1, .inl (k 2, 1000, .inr (.inl (vp_updL obg1 x_10.toNatClampNeg x_29)))), (tn_6, .inl (k 0, 10, .inl tng6)), (oba, .inr (1, [.ref oba_0, .int o_5, .int o_6])), (oba_0, .inl (k 0, 8, .inl o_7)), (tn, .inr (10, [.int tnv0, .int tnv1, .int tnv2, .ref tn_3, .ref tn_4, .ref tn_5, .ref tn_6, .int tnv7, .int tnv8, .ref tn_9, .ref tn_10, .int tnv11, .ref tn_12, .ref tn_13, .ref tn_14, .ref tn_15, .int tnv16, .ref tn_17, .ref tn_18, .ref tnt])), (tn_3, .inl (k 0, 10, .inl tng3)), (tn_4, .inl (k 0, 10, .inl tng4)), (tn_5, .inl (k 0, 10, .inl tng5)), (tn_9, .inl (k 0, 4, .inl tng9)), (tn_10, .inl (k 0, 4, .inl tng10))] H := hP
        have hD : va_D A [(ob, .inr (3, [.ref oba, .ref ob_1])), (ob_1, .inl (k 2, 1000, .inr (.inl (vp_updL obg1 x_10.toNatClampNeg x_29)))), (tn_6, .inl (k 0, 10, .inl tng6)), (oba, .inr (1, [.ref oba_0, .int o_5, .int o_6])), (oba_0, .inl (k 0, 8, .inl o_7)), (tn, .inr (10, [.int tnv0, .int tnv1, .int tnv2, .ref tn_3, .ref tn_4, .ref tn_5, .ref tn_6, .int tnv7, .int tnv8, .ref tn_9, .ref tn_10, .int tnv11, .ref tn_12, .ref tn_13, .ref tn_14, .ref tn_15, .int tnv16, .ref tn_17, .ref tn_18, .ref tnt])), (tn_3, .inl (k 0, 10, .inl tng3)), (tn_4, .inl (k 0, 10, .inl tng4)), (tn_5, .inl (k 0, 10, .inl tng5)), (tn_9, .inl (k 0, 4, .inl tng9)), (tn_10, .inl (k 0, 4, .inl tng10))] := hD
        rw [eg_30] at hP hD
        have hP9 := hP.sub (ws' := [(ob, .inr (3, [.ref oba, .ref ob_1])), (oba, .inr (1, [.ref oba_0, .int o_5, .int o_6])), (oba_0, .inl (k 0, 8, .inl o_7)), (ob_1, .inl (k 2, 1000, .inr (.inl g_30))), (tn, .inr (10, [.int tnv0, .int tnv1, .int tnv2, .ref tn_3, .ref tn_4, .ref tn_5, .ref tn_6, .int tnv7, .int tnv8, .ref tn_9, .ref tn_10, .int tnv11, .ref tn_12, .ref tn_13, .ref tn_14, .ref tn_15, .int tnv16, .ref tn_17, .ref tn_18, .ref tnt])), (tn_3, .inl (k 0, 10, .inl tng3)), (tn_4, .inl (k 0, 10, .inl tng4)), (tn_5, .inl (k 0, 10, .inl tng5)), (tn_6, .inl (k 0, 10, .inl tng6)), (tn_9, .inl (k 0, 4, .inl tng9)), (tn_10, .inl (k 0, 4, .inl tng10))]) [0, 3, 4, 1, 5, 6, 7, 8, 2, 9, 10] rfl
        have hD9 := hD.sub (ws' := [(ob, .inr (3, [.ref oba, .ref ob_1])), (oba, .inr (1, [.ref oba_0, .int o_5, .int o_6])), (oba_0, .inl (k 0, 8, .inl o_7)), (ob_1, .inl (k 2, 1000, .inr (.inl g_30))), (tn, .inr (10, [.int tnv0, .int tnv1, .int tnv2, .ref tn_3, .ref tn_4, .ref tn_5, .ref tn_6, .int tnv7, .int tnv8, .ref tn_9, .ref tn_10, .int tnv11, .ref tn_12, .ref tn_13, .ref tn_14, .ref tn_15, .int tnv16, .ref tn_17, .ref tn_18, .ref tnt])), (tn_3, .inl (k 0, 10, .inl tng3)), (tn_4, .inl (k 0, 10, .inl tng4)), (tn_5, .inl (k 0, 10, .inl tng5)), (tn_6, .inl (k 0, 10, .inl tng6)), (tn_9, .inl (k 0, 4, .inl tng9)), (tn_10, .inl (k 0, 4, .inl tng10))]) [0, 3, 4, 1, 5, 6, 7, 8, 2, 9, 10] (by decide) rfl
        exact W.vret hx hb hr (fun tZ ht hW => ⟨⟨(o_5, o_6, o_7, g_30), rfl, hw_9, by rw [ht]; exact hP9, va_K.moved hW.alike hK, hD9⟩, hS.F ht⟩) hS.2.2 dX3_weighLanes_93
      · skip
        have zh_27 : r_20.toInt < 10 := z_nle h_27
        refine lv_iload hx hb dX3_weighLanes_74 (lv_at hl 9 rfl) ?_
        refine lv_bipush (v := 10) hx hb dX3_weighLanes_76 (by decide) ?_
        refine lv_icmp_lt (tgt := 94) hx hb dX3_weighLanes_78 (by decide) (fun _ => ?_) (fun c9 => absurd c9 (by decide))
        refine lv_iconst (v := 1) hx hb dX3_weighLanes_94 (by decide) ?_
        refine lv_iload hx hb dX3_weighLanes_95 (lv_at hl 0 rfl) ?_
        refine lv_ishl hx hb dX3_weighLanes_97 ?_
        refine lv_topi (fun x_31 ex_31 => ?_)
        have zx_31 : 1 ≤ x_31.toInt ∧ x_31.toInt ≤ 512 := by rw [ex_31]; exact z_shl1 9 512 rfl (by decide) (by omega) (by omega)
        refine lv_istore (lv' := [(11, .int x_31), (10, .int r_20), (9, .int x_16), (8, .int x_10), (0, .ref ob), (1, .ref tn), (2, .int p1), (3, .int p2), (4, .int p3), (5, .long p4), (7, .int 4)]) hx hb dX3_weighLanes_98 hl (by decide) rfl (fun ls hl => ?_)
        refine lv_lload hx hb dX3_weighLanes_100 (lv_at hl 9 rfl) ?_
        refine lv_ldc2 (v := 10) hx hb hown (hts _ tw_5_159) dX3_weighLanes_102 ?_
        refine lv_ldiv hx hb dX3_weighLanes_105 (by decide) ?_
        refine lv_topl (fun x_32 ex_32 => ?_)
        refine lv_lstore (lv' := [(12, .long x_32), (11, .int x_31), (10, .int r_20), (9, .int x_16), (8, .int x_10), (0, .ref ob), (1, .ref tn), (2, .int p1), (3, .int p2), (4, .int p3), (5, .long p4), (7, .int 4)]) hx hb dX3_weighLanes_106 hl (by decide) rfl (fun ls hl => ?_)
        refine lv_aload_n hx hb dX3_weighLanes_108 rfl (lv_at hl 5 rfl) ?_
        refine lv_aload_n hx hb dX3_weighLanes_109 rfl (lv_at hl 6 rfl) ?_
        refine lv_iload_n hx hb dX3_weighLanes_110 rfl (lv_at hl 7 rfl) ?_
        refine lv_iload_n hx hb dX3_weighLanes_111 rfl (lv_at hl 8 rfl) ?_
        refine lv_iload hx hb dX3_weighLanes_112 (lv_at hl 1 rfl) ?_
        refine lv_ior hx hb dX3_weighLanes_114 ?_
        refine lv_topi (fun x_33 ex_33 => ?_)
        refine lv_iload hx hb dX3_weighLanes_115 (lv_at hl 9 rfl) ?_
        refine lv_lload hx hb dX3_weighLanes_117 (lv_at hl 0 rfl) ?_
        refine lv_bipush (v := 10) hx hb dX3_weighLanes_119 (by decide) ?_
        refine lv_aload_n hx hb dX3_weighLanes_121 rfl (lv_at hl 6 rfl) ?_
        refine va_get (D := D) (ci := 10) (v := .ref tn_6) (C := RX10) (T := TX10) (N := 20) hx hb hts iT_X10 hown hK hP 5 rfl rfl 6 (by decide) (hts _ tw_1_98) (fun _ h9 => h9) rfl dX3_weighLanes_122 ?_
        refine lv_iload hx hb dX3_weighLanes_125 (lv_at hl 2 rfl) ?_
        refine va_iald hx hb hK hP 2 0 rfl rfl (z_in (by omega) (by omega)) dX3_weighLanes_127 ?_
        refine lv_topi (fun x_34 ex_34 => ?_)
        have zx_34r0 : 0 ≤ x_34.toInt ∧ x_34.toInt ≤ 10 := by rw [ex_34]; exact PR.ld hp_tng6_0 (by omega) (by omega) (by omega)
        refine lv_isub hx hb dX3_weighLanes_128 ?_
        refine lv_topi (fun x_35 ex_35 => ?_)
        have zx_35 : x_35.toInt = 10 - x_34.toInt := by rw [ex_35]; exact z_sub rfl rfl (by omega) (by omega)
        refine lv_i2l (v := x_35.toInt64) hx hb dX3_weighLanes_129 rfl ?_
        refine lv_lmul hx hb dX3_weighLanes_130 ?_
        refine lv_topl (fun x_36 ex_36 => ?_)
        refine lv_iload hx hb dX3_weighLanes_131 (lv_at hl 11 rfl) ?_
        refine lv_iconst (v := 1) hx hb dX3_weighLanes_133 (by decide) ?_
        refine lv_iadd hx hb dX3_weighLanes_134 ?_
        refine lv_topi (fun x_37 ex_37 => ?_)
        obtain rfl : x_37 = 5 := ex_37.trans (by decide)
        have hPc := hP.sub (ws' := [(ob, .inr (3, [.ref oba, .ref ob_1])), (oba, .inr (1, [.ref oba_0, .int o_5, .int o_6])), (oba_0, .inl (k 0, 8, .inl o_7)), (ob_1, .inl (k 2, 1000, .inr (.inl obg1))), (tn, .inr (10, [.int tnv0, .int tnv1, .int tnv2, .ref tn_3, .ref tn_4, .ref tn_5, .ref tn_6, .int tnv7, .int tnv8, .ref tn_9, .ref tn_10, .int tnv11, .ref tn_12, .ref tn_13, .ref tn_14, .ref tn_15, .int tnv16, .ref tn_17, .ref tn_18, .ref tnt])), (tn_3, .inl (k 0, 10, .inl tng3)), (tn_4, .inl (k 0, 10, .inl tng4)), (tn_5, .inl (k 0, 10, .inl tng5)), (tn_6, .inl (k 0, 10, .inl tng6)), (tn_9, .inl (k 0, 4, .inl tng9)), (tn_10, .inl (k 0, 4, .inl tng10))]) [0, 3, 4, 1, 5, 6, 7, 8, 2, 9, 10] rfl
        have hDc := hD.sub (ws' := [(ob, .inr (3, [.ref oba, .ref ob_1])), (oba, .inr (1, [.ref oba_0, .int o_5, .int o_6])), (oba_0, .inl (k 0, 8, .inl o_7)), (ob_1, .inl (k 2, 1000, .inr (.inl obg1))), (tn, .inr (10, [.int tnv0, .int tnv1, .int tnv2, .ref tn_3, .ref tn_4, .ref tn_5, .ref tn_6, .int tnv7, .int tnv8, .ref tn_9, .ref tn_10, .int tnv11, .ref tn_12, .ref tn_13, .ref tn_14, .ref tn_15, .int tnv16, .ref tn_17, .ref tn_18, .ref tnt])), (tn_3, .inl (k 0, 10, .inl tng3)), (tn_4, .inl (k 0, 10, .inl tng4)), (tn_5, .inl (k 0, 10, .inl tng5)), (tn_6, .inl (k 0, 10, .inl tng6)), (tn_9, .inl (k 0, 4, .inl tng9)), (tn_10, .inl (k 0, 4, .inl tng10))]) [0, 3, 4, 1, 5, 6, 7, 8, 2, 9, 10] (by decide) rfl
        have hFc := va_free (wc := [(ob, .inr (3, [.ref oba, .ref ob_1])), (oba, .inr (1, [.ref oba_0, .int o_5, .int o_6])), (oba_0, .inl (k 0, 8, .inl o_7)), (ob_1, .inl (k 2, 1000, .inr (.inl obg1))), (tn, .inr (10, [.int tnv0, .int tnv1, .int tnv2, .ref tn_3, .ref tn_4, .ref tn_5, .ref tn_6, .int tnv7, .int tnv8, .ref tn_9, .ref tn_10, .int tnv11, .ref tn_12, .ref tn_13, .ref tn_14, .ref tn_15, .int tnv16, .ref tn_17, .ref tn_18, .ref tnt])), (tn_3, .inl (k 0, 10, .inl tng3)), (tn_4, .inl (k 0, 10, .inl tng4)), (tn_5, .inl (k 0, 10, .inl tng5)), (tn_6, .inl (k 0, 10, .inl tng6)), (tn_9, .inl (k 0, 4, .inl tng9)), (tn_10, .inl (k 0, 4, .inl tng10))]) hD hS hA [0, 3, 4, 1, 5, 6, 7, 8, 2, 9, 10] rfl
        refine va_callv (va_runV (C := RX3) (As := [.ref tn, .int p1, .int x_33, .int p3, .long x_36, .int 5]) (rest := []) ⟨hx, hb, hml, hown, hts⟩ (c_X3_weighLanes_5 l D k ob tn p1 x_33 p3 x_36 oba ob_1 oba_0 o_5 o_6 o_7 obg1 tnv0 tnv1 tnv2 tn_3 tn_4 tn_5 tn_6 tnv7 tnv8 tn_9 tn_10 tnv11 tn_12 tn_13 tn_14 tn_15 tnv16 tn_17 tn_18 tnt tng3 tng4 tng5 tng6 tng9 tng10 H.size (show 0 ≤ p1.toInt ∧ p1.toInt ≤ 7 from by omega) hw_9 (show 0 ≤ tnv0.toInt ∧ tnv0.toInt ≤ 8 from by omega) (show 0 ≤ tnv2.toInt ∧ tnv2.toInt ≤ 10 from by omega) (show 0 ≤ tnv8.toInt ∧ tnv8.toInt ≤ 4 from by omega) (show 0 ≤ tnv11.toInt ∧ tnv11.toInt ≤ 6 from by omega) (show 0 ≤ tnv16.toInt ∧ tnv16.toInt ≤ 2 from by omega) hp_tng3_0 hp_tng4_0 hp_tng5_0 hp_tng6_0 hp_tng9_0 hp_tng10_0) (cwV 6 hts (gV tw_5_151 tw_5_153 tw_p_34 tw_1_12 tw_5_154) rfl rfl rfl hdV_X3_weighLanes ⟨Nat.le_of_ble_eq_true rfl, Nat.le_of_ble_eq_true rfl⟩) (cz_V hK hPc hDc hN (ci := 3) (q0 := 0) rfl rfl [.ref tn, .int p1, .int x_33, .int p3, .long x_36, .int 5]) rfl rfl hl.1 rfl (lv_room (Nat.le_of_ble_eq_true rfl)) dX3_weighLanes_135 ⟨Nat.le_of_ble_eq_true rfl, Nat.le_of_ble_eq_true rfl⟩) hS (fun q _ h => hFc q h) hFc (fun uZ tZ H1 locs ht hvm hw hB hz1 hk1 hS => ?_)
        obtain ⟨o_39, o_40, o_41, o_42⟩ := uZ
        obtain ⟨hP1, hK1, hD1⟩ := hB
        rw [ht] at hP1
        obtain ⟨hP, hD⟩ := va_join (wr := []) (w1 := [(ob, .inr (3, [.ref oba, .ref ob_1])), (oba, .inr (1, [.ref oba_0, .int o_39, .int o_40])), (oba_0, .inl (k 0, 8, .inl o_41)), (ob_1, .inl (k 2, 1000, .inr (.inl o_42))), (tn, .inr (10, [.int tnv0, .int tnv1, .int tnv2, .ref tn_3, .ref tn_4, .ref tn_5, .ref tn_6, .int tnv7, .int tnv8, .ref tn_9, .ref tn_10, .int tnv11, .ref tn_12, .ref tn_13, .ref tn_14, .ref tn_15, .int tnv16, .ref tn_17, .ref tn_18, .ref tnt])), (tn_3, .inl (k 0, 10, .inl tng3)), (tn_4, .inl (k 0, 10, .inl tng4)), (tn_5, .inl (k 0, 10, .inl tng5)), (tn_6, .inl (k 0, 10, .inl tng6)), (tn_9, .inl (k 0, 4, .inl tng9)), (tn_10, .inl (k 0, 4, .inl tng10))]) hP hD [0, 3, 4, 1, 5, 6, 7, 8, 2, 9, 10] [] rfl rfl (by decide) (by decide) hk1 hFc hP1 hD1
        clear hK1 hP1 hD1 hPc hDc hFc
        clear hk1 hz1 ht hvm
        have hP : va_P D vwCl [(ob, .inr (3, [.ref oba, .ref ob_1])), (oba, .inr (1, [.ref oba_0, .int o_39, .int o_40])), (oba_0, .inl (k 0, 8, .inl o_41)), (ob_1, .inl (k 2, 1000, .inr (.inl o_42))), (tn, .inr (10, [.int tnv0, .int tnv1, .int tnv2, .ref tn_3, .ref tn_4, .ref tn_5, .ref tn_6, .int tnv7, .int tnv8, .ref tn_9, .ref tn_10, .int tnv11, .ref tn_12, .ref tn_13, .ref tn_14, .ref tn_15, .int tnv16, .ref tn_17, .ref tn_18, .ref tnt])), (tn_3, .inl (k 0, 10, .inl tng3)), (tn_4, .inl (k 0, 10, .inl tng4)), (tn_5, .inl (k 0, 10, .inl tng5)), (tn_6, .inl (k 0, 10, .inl tng6)), (tn_9, .inl (k 0, 4, .inl tng9)), (tn_10, .inl (k 0, 4, .inl tng10))] H1 := hP
        have hD : va_D A [(ob, .inr (3, [.ref oba, .ref ob_1])), (oba, .inr (1, [.ref oba_0, .int o_39, .int o_40])), (oba_0, .inl (k 0, 8, .inl o_41)), (ob_1, .inl (k 2, 1000, .inr (.inl o_42))), (tn, .inr (10, [.int tnv0, .int tnv1, .int tnv2, .ref tn_3, .ref tn_4, .ref tn_5, .ref tn_6, .int tnv7, .int tnv8, .ref tn_9, .ref tn_10, .int tnv11, .ref tn_12, .ref tn_13, .ref tn_14, .ref tn_15, .int tnv16, .ref tn_17, .ref tn_18, .ref tnt])), (tn_3, .inl (k 0, 10, .inl tng3)), (tn_4, .inl (k 0, 10, .inl tng4)), (tn_5, .inl (k 0, 10, .inl tng5)), (tn_6, .inl (k 0, 10, .inl tng6)), (tn_9, .inl (k 0, 4, .inl tng9)), (tn_10, .inl (k 0, 4, .inl tng10))] := hD
        generalize H1 = H at hP hS ⊢
        have hw_43 : (PR 8 1 0 0 1000000 o_41) := hw
        have hw_44 := hw_43
        clear hw
        refine lv_aload_n hx hb dX3_weighLanes_138 rfl (lv_at hl 5 rfl) ?_
        refine lv_aload_n hx hb dX3_weighLanes_139 rfl (lv_at hl 6 rfl) ?_
        refine lv_iload_n hx hb dX3_weighLanes_140 rfl (lv_at hl 7 rfl) ?_
        refine lv_iload_n hx hb dX3_weighLanes_141 rfl (lv_at hl 8 rfl) ?_
        refine lv_iload hx hb dX3_weighLanes_142 (lv_at hl 1 rfl) ?_
        refine lv_ior hx hb dX3_weighLanes_144 ?_
        refine lv_topi (fun x_45 ex_45 => ?_)
        obtain rfl : x_33 = x_45 := ex_33.trans ex_45.symm
        refine lv_iload hx hb dX3_weighLanes_145 (lv_at hl 9 rfl) ?_
        refine lv_iload hx hb dX3_weighLanes_147 (lv_at hl 1 rfl) ?_
        refine lv_ior hx hb dX3_weighLanes_149 ?_
        refine lv_topi (fun x_46 ex_46 => ?_)
        have zrp3 := z_rng p3
        refine lv_lload hx hb dX3_weighLanes_150 (lv_at hl 0 rfl) ?_
        refine lv_aload_n hx hb dX3_weighLanes_152 rfl (lv_at hl 6 rfl) ?_
        refine va_get (D := D) (ci := 10) (v := .ref tn_6) (C := RX10) (T := TX10) (N := 20) hx hb hts iT_X10 hown hK hP 4 rfl rfl 6 (by decide) (hts _ tw_1_98) (fun _ h9 => h9) rfl dX3_weighLanes_153 ?_
        refine lv_iload hx hb dX3_weighLanes_156 (lv_at hl 2 rfl) ?_
        refine va_iald hx hb hK hP 8 0 rfl rfl (z_in (by omega) (by omega)) dX3_weighLanes_158 ?_
        refine lv_topi (fun x_47 ex_47 => ?_)
        obtain rfl : x_34 = x_47 := ex_34.trans ex_47.symm
        refine lv_i2l (v := x_34.toInt64) hx hb dX3_weighLanes_159 rfl ?_
        refine lv_lmul hx hb dX3_weighLanes_160 ?_
        refine lv_topl (fun x_48 ex_48 => ?_)
        refine lv_iload hx hb dX3_weighLanes_161 (lv_at hl 11 rfl) ?_
        refine lv_iconst (v := 1) hx hb dX3_weighLanes_163 (by decide) ?_
        refine lv_iadd hx hb dX3_weighLanes_164 ?_
        refine lv_topi (fun x_49 ex_49 => ?_)
        obtain rfl : x_49 = 5 := ex_49.trans (by decide)
        have hPc := hP.sub (ws' := [(ob, .inr (3, [.ref oba, .ref ob_1])), (oba, .inr (1, [.ref oba_0, .int o_39, .int o_40])), (oba_0, .inl (k 0, 8, .inl o_41)), (ob_1, .inl (k 2, 1000, .inr (.inl o_42))), (tn, .inr (10, [.int tnv0, .int tnv1, .int tnv2, .ref tn_3, .ref tn_4, .ref tn_5, .ref tn_6, .int tnv7, .int tnv8, .ref tn_9, .ref tn_10, .int tnv11, .ref tn_12, .ref tn_13, .ref tn_14, .ref tn_15, .int tnv16, .ref tn_17, .ref tn_18, .ref tnt])), (tn_3, .inl (k 0, 10, .inl tng3)), (tn_4, .inl (k 0, 10, .inl tng4)), (tn_5, .inl (k 0, 10, .inl tng5)), (tn_6, .inl (k 0, 10, .inl tng6)), (tn_9, .inl (k 0, 4, .inl tng9)), (tn_10, .inl (k 0, 4, .inl tng10))]) [0, 1, 2, 3, 4, 5, 6, 7, 8, 9, 10] rfl
        have hDc := hD.sub (ws' := [(ob, .inr (3, [.ref oba, .ref ob_1])), (oba, .inr (1, [.ref oba_0, .int o_39, .int o_40])), (oba_0, .inl (k 0, 8, .inl o_41)), (ob_1, .inl (k 2, 1000, .inr (.inl o_42))), (tn, .inr (10, [.int tnv0, .int tnv1, .int tnv2, .ref tn_3, .ref tn_4, .ref tn_5, .ref tn_6, .int tnv7, .int tnv8, .ref tn_9, .ref tn_10, .int tnv11, .ref tn_12, .ref tn_13, .ref tn_14, .ref tn_15, .int tnv16, .ref tn_17, .ref tn_18, .ref tnt])), (tn_3, .inl (k 0, 10, .inl tng3)), (tn_4, .inl (k 0, 10, .inl tng4)), (tn_5, .inl (k 0, 10, .inl tng5)), (tn_6, .inl (k 0, 10, .inl tng6)), (tn_9, .inl (k 0, 4, .inl tng9)), (tn_10, .inl (k 0, 4, .inl tng10))]) [0, 1, 2, 3, 4, 5, 6, 7, 8, 9, 10] (by decide) rfl
        have hFc := va_free (wc := [(ob, .inr (3, [.ref oba, .ref ob_1])), (oba, .inr (1, [.ref oba_0, .int o_39, .int o_40])), (oba_0, .inl (k 0, 8, .inl o_41)), (ob_1, .inl (k 2, 1000, .inr (.inl o_42))), (tn, .inr (10, [.int tnv0, .int tnv1, .int tnv2, .ref tn_3, .ref tn_4, .ref tn_5, .ref tn_6, .int tnv7, .int tnv8, .ref tn_9, .ref tn_10, .int tnv11, .ref tn_12, .ref tn_13, .ref tn_14, .ref tn_15, .int tnv16, .ref tn_17, .ref tn_18, .ref tnt])), (tn_3, .inl (k 0, 10, .inl tng3)), (tn_4, .inl (k 0, 10, .inl tng4)), (tn_5, .inl (k 0, 10, .inl tng5)), (tn_6, .inl (k 0, 10, .inl tng6)), (tn_9, .inl (k 0, 4, .inl tng9)), (tn_10, .inl (k 0, 4, .inl tng10))]) hD hS hA [0, 1, 2, 3, 4, 5, 6, 7, 8, 9, 10] rfl
        refine va_callv (va_runV (C := RX3) (As := [.ref tn, .int p1, .int x_33, .int x_46, .long x_48, .int 5]) (rest := []) ⟨hx, hb, hml, hown, hts⟩ (c_X3_weighLanes_5 l D k ob tn p1 x_33 x_46 x_48 oba ob_1 oba_0 o_39 o_40 o_41 o_42 tnv0 tnv1 tnv2 tn_3 tn_4 tn_5 tn_6 tnv7 tnv8 tn_9 tn_10 tnv11 tn_12 tn_13 tn_14 tn_15 tnv16 tn_17 tn_18 tnt tng3 tng4 tng5 tng6 tng9 tng10 H.size (show 0 ≤ p1.toInt ∧ p1.toInt ≤ 7 from by omega) hw_44 (show 0 ≤ tnv0.toInt ∧ tnv0.toInt ≤ 8 from by omega) (show 0 ≤ tnv2.toInt ∧ tnv2.toInt ≤ 10 from by omega) (show 0 ≤ tnv8.toInt ∧ tnv8.toInt ≤ 4 from by omega) (show 0 ≤ tnv11.toInt ∧ tnv11.toInt ≤ 6 from by omega) (show 0 ≤ tnv16.toInt ∧ tnv16.toInt ≤ 2 from by omega) hp_tng3_0 hp_tng4_0 hp_tng5_0 hp_tng6_0 hp_tng9_0 hp_tng10_0) (cwV 6 hts (gV tw_5_151 tw_5_153 tw_p_34 tw_1_12 tw_5_154) rfl rfl rfl hdV_X3_weighLanes ⟨Nat.le_of_ble_eq_true rfl, Nat.le_of_ble_eq_true rfl⟩) (cz_V hK hPc hDc hN (ci := 3) (q0 := 0) rfl rfl [.ref tn, .int p1, .int x_33, .int x_46, .long x_48, .int 5]) rfl rfl hl.1 rfl (lv_room (Nat.le_of_ble_eq_true rfl)) dX3_weighLanes_165 ⟨Nat.le_of_ble_eq_true rfl, Nat.le_of_ble_eq_true rfl⟩) hS (fun q _ h => hFc q h) hFc (fun uZ tZ H1 locs ht hvm hw hB hz1 hk1 hS => ?_)
        obtain ⟨o_51, o_52, o_53, o_54⟩ := uZ
        obtain ⟨hP1, hK1, hD1⟩ := hB
        rw [ht] at hP1
        obtain ⟨hP, hD⟩ := va_join (wr := []) (w1 := [(ob, .inr (3, [.ref oba, .ref ob_1])), (oba, .inr (1, [.ref oba_0, .int o_51, .int o_52])), (oba_0, .inl (k 0, 8, .inl o_53)), (ob_1, .inl (k 2, 1000, .inr (.inl o_54))), (tn, .inr (10, [.int tnv0, .int tnv1, .int tnv2, .ref tn_3, .ref tn_4, .ref tn_5, .ref tn_6, .int tnv7, .int tnv8, .ref tn_9, .ref tn_10, .int tnv11, .ref tn_12, .ref tn_13, .ref tn_14, .ref tn_15, .int tnv16, .ref tn_17, .ref tn_18, .ref tnt])), (tn_3, .inl (k 0, 10, .inl tng3)), (tn_4, .inl (k 0, 10, .inl tng4)), (tn_5, .inl (k 0, 10, .inl tng5)), (tn_6, .inl (k 0, 10, .inl tng6)), (tn_9, .inl (k 0, 4, .inl tng9)), (tn_10, .inl (k 0, 4, .inl tng10))]) hP hD [0, 1, 2, 3, 4, 5, 6, 7, 8, 9, 10] [] rfl rfl (by decide) (by decide) hk1 hFc hP1 hD1
        clear hK1 hP1 hD1 hPc hDc hFc
        clear hk1 hz1 ht hvm
        have hP : va_P D vwCl [(ob, .inr (3, [.ref oba, .ref ob_1])), (oba, .inr (1, [.ref oba_0, .int o_51, .int o_52])), (oba_0, .inl (k 0, 8, .inl o_53)), (ob_1, .inl (k 2, 1000, .inr (.inl o_54))), (tn, .inr (10, [.int tnv0, .int tnv1, .int tnv2, .ref tn_3, .ref tn_4, .ref tn_5, .ref tn_6, .int tnv7, .int tnv8, .ref tn_9, .ref tn_10, .int tnv11, .ref tn_12, .ref tn_13, .ref tn_14, .ref tn_15, .int tnv16, .ref tn_17, .ref tn_18, .ref tnt])), (tn_3, .inl (k 0, 10, .inl tng3)), (tn_4, .inl (k 0, 10, .inl tng4)), (tn_5, .inl (k 0, 10, .inl tng5)), (tn_6, .inl (k 0, 10, .inl tng6)), (tn_9, .inl (k 0, 4, .inl tng9)), (tn_10, .inl (k 0, 4, .inl tng10))] H1 := hP
        have hD : va_D A [(ob, .inr (3, [.ref oba, .ref ob_1])), (oba, .inr (1, [.ref oba_0, .int o_51, .int o_52])), (oba_0, .inl (k 0, 8, .inl o_53)), (ob_1, .inl (k 2, 1000, .inr (.inl o_54))), (tn, .inr (10, [.int tnv0, .int tnv1, .int tnv2, .ref tn_3, .ref tn_4, .ref tn_5, .ref tn_6, .int tnv7, .int tnv8, .ref tn_9, .ref tn_10, .int tnv11, .ref tn_12, .ref tn_13, .ref tn_14, .ref tn_15, .int tnv16, .ref tn_17, .ref tn_18, .ref tnt])), (tn_3, .inl (k 0, 10, .inl tng3)), (tn_4, .inl (k 0, 10, .inl tng4)), (tn_5, .inl (k 0, 10, .inl tng5)), (tn_6, .inl (k 0, 10, .inl tng6)), (tn_9, .inl (k 0, 4, .inl tng9)), (tn_10, .inl (k 0, 4, .inl tng10))] := hD
        generalize H1 = H at hP hS ⊢
        have hw_55 : (PR 8 1 0 0 1000000 o_53) := hw
        have hw_56 := hw_55
        clear hw
        have hP9 := hP.sub (ws' := [(ob, .inr (3, [.ref oba, .ref ob_1])), (oba, .inr (1, [.ref oba_0, .int o_51, .int o_52])), (oba_0, .inl (k 0, 8, .inl o_53)), (ob_1, .inl (k 2, 1000, .inr (.inl o_54))), (tn, .inr (10, [.int tnv0, .int tnv1, .int tnv2, .ref tn_3, .ref tn_4, .ref tn_5, .ref tn_6, .int tnv7, .int tnv8, .ref tn_9, .ref tn_10, .int tnv11, .ref tn_12, .ref tn_13, .ref tn_14, .ref tn_15, .int tnv16, .ref tn_17, .ref tn_18, .ref tnt])), (tn_3, .inl (k 0, 10, .inl tng3)), (tn_4, .inl (k 0, 10, .inl tng4)), (tn_5, .inl (k 0, 10, .inl tng5)), (tn_6, .inl (k 0, 10, .inl tng6)), (tn_9, .inl (k 0, 4, .inl tng9)), (tn_10, .inl (k 0, 4, .inl tng10))]) [0, 1, 2, 3, 4, 5, 6, 7, 8, 9, 10] rfl
        have hD9 := hD.sub (ws' := [(ob, .inr (3, [.ref oba, .ref ob_1])), (oba, .inr (1, [.ref oba_0, .int o_51, .int o_52])), (oba_0, .inl (k 0, 8, .inl o_53)), (ob_1, .inl (k 2, 1000, .inr (.inl o_54))), (tn, .inr (10, [.int tnv0, .int tnv1, .int tnv2, .ref tn_3, .ref tn_4, .ref tn_5, .ref tn_6, .int tnv7, .int tnv8, .ref tn_9, .ref tn_10, .int tnv11, .ref tn_12, .ref tn_13, .ref tn_14, .ref tn_15, .int tnv16, .ref tn_17, .ref tn_18, .ref tnt])), (tn_3, .inl (k 0, 10, .inl tng3)), (tn_4, .inl (k 0, 10, .inl tng4)), (tn_5, .inl (k 0, 10, .inl tng5)), (tn_6, .inl (k 0, 10, .inl tng6)), (tn_9, .inl (k 0, 4, .inl tng9)), (tn_10, .inl (k 0, 4, .inl tng10))]) [0, 1, 2, 3, 4, 5, 6, 7, 8, 9, 10] (by decide) rfl
        exact W.vret hx hb hr (fun tZ ht hW => ⟨⟨(o_51, o_52, o_53, o_54), rfl, hw_56, by rw [ht]; exact hP9, va_K.moved hW.alike hK, hD9⟩, hS.F ht⟩) hS.2.2 dX3_weighLanes_168
  · skip
    have zh_11 : 1000 ≤ x_10.toInt := z_nlt h_11
    have hP9 := hP.sub (ws' := [(ob, .inr (3, [.ref oba, .ref ob_1])), (oba, .inr (1, [.ref oba_0, .int o_5, .int o_6])), (oba_0, .inl (k 0, 8, .inl o_7)), (ob_1, .inl (k 2, 1000, .inr (.inl obg1))), (tn, .inr (10, [.int tnv0, .int tnv1, .int tnv2, .ref tn_3, .ref tn_4, .ref tn_5, .ref tn_6, .int tnv7, .int tnv8, .ref tn_9, .ref tn_10, .int tnv11, .ref tn_12, .ref tn_13, .ref tn_14, .ref tn_15, .int tnv16, .ref tn_17, .ref tn_18, .ref tnt])), (tn_3, .inl (k 0, 10, .inl tng3)), (tn_4, .inl (k 0, 10, .inl tng4)), (tn_5, .inl (k 0, 10, .inl tng5)), (tn_6, .inl (k 0, 10, .inl tng6)), (tn_9, .inl (k 0, 4, .inl tng9)), (tn_10, .inl (k 0, 4, .inl tng10))]) [0, 3, 4, 1, 5, 6, 7, 8, 2, 9, 10] rfl
    have hD9 := hD.sub (ws' := [(ob, .inr (3, [.ref oba, .ref ob_1])), (oba, .inr (1, [.ref oba_0, .int o_5, .int o_6])), (oba_0, .inl (k 0, 8, .inl o_7)), (ob_1, .inl (k 2, 1000, .inr (.inl obg1))), (tn, .inr (10, [.int tnv0, .int tnv1, .int tnv2, .ref tn_3, .ref tn_4, .ref tn_5, .ref tn_6, .int tnv7, .int tnv8, .ref tn_9, .ref tn_10, .int tnv11, .ref tn_12, .ref tn_13, .ref tn_14, .ref tn_15, .int tnv16, .ref tn_17, .ref tn_18, .ref tnt])), (tn_3, .inl (k 0, 10, .inl tng3)), (tn_4, .inl (k 0, 10, .inl tng4)), (tn_5, .inl (k 0, 10, .inl tng5)), (tn_6, .inl (k 0, 10, .inl tng6)), (tn_9, .inl (k 0, 4, .inl tng9)), (tn_10, .inl (k 0, 4, .inl tng10))]) [0, 3, 4, 1, 5, 6, 7, 8, 2, 9, 10] (by decide) rfl
    exact W.vret hx hb hr (fun tZ ht hW => ⟨⟨(o_5, o_6, o_7, obg1), rfl, hw_9, by rw [ht]; exact hP9, va_K.moved hW.alike hK, hD9⟩, hS.F ht⟩) hS.2.2 dX3_weighLanes_33
set_option maxHeartbeats 4000000 in
set_option maxRecDepth 100000 in
theorem c_X3_weighLanes_7 (l : Launch) (D : va_G) (k : Nat → ClassId) (ob : Nat) (tn : Nat) (p1 : Int32) (p2 : Int32) (p3 : Int32) (p4 : Int64) (oba : Nat) (ob_1 : Nat) (oba_0 : Nat) (obav1 : Int32) (obav2 : Int32) (obag0 : Nat → Int32) (obg1 : Nat → Int64) (tnv0 : Int32) (tnv1 : Int32) (tnv2 : Int32) (tn_3 : Nat) (tn_4 : Nat) (tn_5 : Nat) (tn_6 : Nat) (tnv7 : Int32) (tnv8 : Int32) (tn_9 : Nat) (tn_10 : Nat) (tnv11 : Int32) (tn_12 : Nat) (tn_13 : Nat) (tn_14 : Nat) (tn_15 : Nat) (tnv16 : Int32) (tn_17 : Nat) (tn_18 : Nat) (tnt : Nat) (tng3 : Nat → Int32) (tng4 : Nat → Int32) (tng5 : Nat → Int32) (tng6 : Nat → Int32) (tng9 : Nat → Int32) (tng10 : Nat → Int32) (sz : Nat) (h_p1 : 0 ≤ p1.toInt ∧ p1.toInt ≤ 7) (hp_obag0_0 : PR 8 1 0 0 1000000 obag0) (h_tnv0 : 0 ≤ tnv0.toInt ∧ tnv0.toInt ≤ 8) (h_tnv2 : 0 ≤ tnv2.toInt ∧ tnv2.toInt ≤ 10) (h_tnv8 : 0 ≤ tnv8.toInt ∧ tnv8.toInt ≤ 4) (h_tnv11 : 0 ≤ tnv11.toInt ∧ tnv11.toInt ≤ 6) (h_tnv16 : 0 ≤ tnv16.toInt ∧ tnv16.toInt ≤ 2) (hp_tng3_0 : PR 10 1 0 0 7 tng3) (hp_tng4_0 : PR 10 1 0 0 7 tng4) (hp_tng5_0 : PR 10 1 0 0 60 tng5) (hp_tng6_0 : PR 10 1 0 0 10 tng6) (hp_tng9_0 : PR 4 1 0 0 7 tng9) (hp_tng10_0 : PR 4 1 0 0 99 tng10) : Met l yX3_weighLanes (ww yX3_weighLanes cX3_weighLanes 14 none) ({ frames := 11, cells := 0, slots := 0, locals := 331 }) (Pre0 D k [(ob, .inr (3, [.ref oba, .ref ob_1])), (oba, .inr (1, [.ref oba_0, .int obav1, .int obav2])), (oba_0, .inl (k 0, 8, .inl obag0)), (ob_1, .inl (k 2, 1000, .inr (.inl obg1))), (tn, .inr (10, [.int tnv0, .int tnv1, .int tnv2, .ref tn_3, .ref tn_4, .ref tn_5, .ref tn_6, .int tnv7, .int tnv8, .ref tn_9, .ref tn_10, .int tnv11, .ref tn_12, .ref tn_13, .ref tn_14, .ref tn_15, .int tnv16, .ref tn_17, .ref tn_18, .ref tnt])), (tn_3, .inl (k 0, 10, .inl tng3)), (tn_4, .inl (k 0, 10, .inl tng4)), (tn_5, .inl (k 0, 10, .inl tng5)), (tn_6, .inl (k 0, 10, .inl tng6)), (tn_9, .inl (k 0, 4, .inl tng9)), (tn_10, .inl (k 0, 4, .inl tng10))] sz [.ref ob, .ref tn, .int p1, .int p2, .int p3, .long p4, .int 3]) (va_Qv (fun (u : Int32 × Int32 × (Nat → Int32) × (Nat → Int64)) => match u with | (obav1z, obav2z, obag0z, obg1z) => (PR 8 1 0 0 1000000 obag0z)) (fun (u : Int32 × Int32 × (Nat → Int32) × (Nat → Int64)) tZ => match u with | (obav1z, obav2z, obag0z, obg1z) => Bw D k (va_A [(ob, .inr (3, [.ref oba, .ref ob_1])), (oba, .inr (1, [.ref oba_0, .int obav1, .int obav2])), (oba_0, .inl (k 0, 8, .inl obag0)), (ob_1, .inl (k 2, 1000, .inr (.inl obg1))), (tn, .inr (10, [.int tnv0, .int tnv1, .int tnv2, .ref tn_3, .ref tn_4, .ref tn_5, .ref tn_6, .int tnv7, .int tnv8, .ref tn_9, .ref tn_10, .int tnv11, .ref tn_12, .ref tn_13, .ref tn_14, .ref tn_15, .int tnv16, .ref tn_17, .ref tn_18, .ref tnt])), (tn_3, .inl (k 0, 10, .inl tng3)), (tn_4, .inl (k 0, 10, .inl tng4)), (tn_5, .inl (k 0, 10, .inl tng5)), (tn_6, .inl (k 0, 10, .inl tng6)), (tn_9, .inl (k 0, 4, .inl tng9)), (tn_10, .inl (k 0, 4, .inl tng10))] sz) [(ob, .inr (3, [.ref oba, .ref ob_1])), (oba, .inr (1, [.ref oba_0, .int obav1z, .int obav2z])), (oba_0, .inl (k 0, 8, .inl obag0z)), (ob_1, .inl (k 2, 1000, .inr (.inl obg1z))), (tn, .inr (10, [.int tnv0, .int tnv1, .int tnv2, .ref tn_3, .ref tn_4, .ref tn_5, .ref tn_6, .int tnv7, .int tnv8, .ref tn_9, .ref tn_10, .int tnv11, .ref tn_12, .ref tn_13, .ref tn_14, .ref tn_15, .int tnv16, .ref tn_17, .ref tn_18, .ref tnt])), (tn_3, .inl (k 0, 10, .inl tng3)), (tn_4, .inl (k 0, 10, .inl tng4)), (tn_5, .inl (k 0, 10, .inl tng5)), (tn_6, .inl (k 0, 10, .inl tng6)), (tn_9, .inl (k 0, 4, .inl tng9)), (tn_10, .inl (k 0, 4, .inl tng10))] tZ) (va_A [(ob, .inr (3, [.ref oba, .ref ob_1])), (oba, .inr (1, [.ref oba_0, .int obav1, .int obav2])), (oba_0, .inl (k 0, 8, .inl obag0)), (ob_1, .inl (k 2, 1000, .inr (.inl obg1))), (tn, .inr (10, [.int tnv0, .int tnv1, .int tnv2, .ref tn_3, .ref tn_4, .ref tn_5, .ref tn_6, .int tnv7, .int tnv8, .ref tn_9, .ref tn_10, .int tnv11, .ref tn_12, .ref tn_13, .ref tn_14, .ref tn_15, .int tnv16, .ref tn_17, .ref tn_18, .ref tnt])), (tn_3, .inl (k 0, 10, .inl tng3)), (tn_4, .inl (k 0, 10, .inl tng4)), (tn_5, .inl (k 0, 10, .inl tng5)), (tn_6, .inl (k 0, 10, .inl tng6)), (tn_9, .inl (k 0, 4, .inl tng9)), (tn_10, .inl (k 0, 4, .inl tng10))] sz)) 0 0 (va_A [(ob, .inr (3, [.ref oba, .ref ob_1])), (oba, .inr (1, [.ref oba_0, .int obav1, .int obav2])), (oba_0, .inl (k 0, 8, .inl obag0)), (ob_1, .inl (k 2, 1000, .inr (.inl obg1))), (tn, .inr (10, [.int tnv0, .int tnv1, .int tnv2, .ref tn_3, .ref tn_4, .ref tn_5, .ref tn_6, .int tnv7, .int tnv8, .ref tn_9, .ref tn_10, .int tnv11, .ref tn_12, .ref tn_13, .ref tn_14, .ref tn_15, .int tnv16, .ref tn_17, .ref tn_18, .ref tnt])), (tn_3, .inl (k 0, 10, .inl tng3)), (tn_4, .inl (k 0, 10, .inl tng4)), (tn_5, .inl (k 0, 10, .inl tng5)), (tn_6, .inl (k 0, 10, .inl tng6)), (tn_9, .inl (k 0, 4, .inl tng9)), (tn_10, .inl (k 0, 4, .inl tng10))] sz) := by
  refine Met.ofW (cc := cX3_weighLanes) (maxL := 14) (ret := none) (by decide +kernel) rfl ?_
  intro p e s m args below meth c s₁ B hml hv
  obtain ⟨rfl, hsz, hP, hK, hD0, hN⟩ := hv
  have hx := B.exec
  have hb := B.bytes
  have hr := B.returns
  have hts : ∀ w ∈ TT, w.before _ s = true := fun w h => atoms_spec (ws := ww yX3_weighLanes cX3_weighLanes 14 none) B.pre w (List.mem_cons_of_mem _ h)
  have hown : s.vm.findClass RX3 = some m.cls := findClass_of_methodNamed B.named
  have hlocks := B.notSynchronized
  subst hsz
  have hD := hD0.self (sz := s.heap.size)
  generalize hAe : va_A [(ob, .inr (3, [.ref oba, .ref ob_1])), (oba, .inr (1, [.ref oba_0, .int obav1, .int obav2])), (oba_0, .inl (k 0, 8, .inl obag0)), (ob_1, .inl (k 2, 1000, .inr (.inl obg1))), (tn, .inr (10, [.int tnv0, .int tnv1, .int tnv2, .ref tn_3, .ref tn_4, .ref tn_5, .ref tn_6, .int tnv7, .int tnv8, .ref tn_9, .ref tn_10, .int tnv11, .ref tn_12, .ref tn_13, .ref tn_14, .ref tn_15, .int tnv16, .ref tn_17, .ref tn_18, .ref tnt])), (tn_3, .inl (k 0, 10, .inl tng3)), (tn_4, .inl (k 0, 10, .inl tng4)), (tn_5, .inl (k 0, 10, .inl tng5)), (tn_6, .inl (k 0, 10, .inl tng6)), (tn_9, .inl (k 0, 4, .inl tng9)), (tn_10, .inl (k 0, 4, .inl tng10))] s.heap.size = A at hD ⊢
  have hA : ∀ q : Nat, s.heap.size ≤ q → A q := fun q h => by rw [← hAe]; exact Or.inr h
  have hS : va_S A s.heap s.heap [] := va_S.rf
  have hl := lv_entry ([.ref ob, .ref tn, .int p1, .int p2, .int p3, .long p4, .int 3]) (n := 14) (Nat.le_of_ble_eq_true rfl)
  rw [lg_entry_eq]
  generalize (lg_sl ([.ref ob, .ref tn, .int p1, .int p2, .int p3, .long p4, .int 3]) ++ List.replicate (14 - (lg_sl ([.ref ob, .ref tn, .int p1, .int p2, .int p3, .long p4, .int 3])).length) Slot.unset).toArray = ls at hl ⊢
  have hl : lv_has ls 14 [(0, .ref ob), (1, .ref tn), (2, .int p1), (3, .int p2), (4, .int p3), (5, .long p4), (7, .int 3)] := hl
  refine lv_aload_n hx hb dX3_weighLanes_0 rfl (lv_at hl 0 rfl) ?_
  refine va_get (D := D) (ci := 3) (v := .ref oba) (C := RX3) (T := TX3) (N := 2) hx hb hts iT_X3 hown hK hP 0 rfl rfl 0 (by decide) (hts _ tw_2_163) (fun _ h9 => h9) rfl dX3_weighLanes_1 ?_
  refine lv_aload_n hx hb dX3_weighLanes_4 rfl (lv_at hl 1 rfl) ?_
  refine lv_aload_n hx hb dX3_weighLanes_5 rfl (lv_at hl 1 rfl) ?_
  have hPc := hP.sub (ws' := [(tn, .inr (10, [.int tnv0, .int tnv1, .int tnv2, .ref tn_3, .ref tn_4, .ref tn_5, .ref tn_6, .int tnv7, .int tnv8, .ref tn_9, .ref tn_10, .int tnv11, .ref tn_12, .ref tn_13, .ref tn_14, .ref tn_15, .int tnv16, .ref tn_17, .ref tn_18, .ref tnt]))]) [4] rfl
  have hDc := hD.sub (ws' := [(tn, .inr (10, [.int tnv0, .int tnv1, .int tnv2, .ref tn_3, .ref tn_4, .ref tn_5, .ref tn_6, .int tnv7, .int tnv8, .ref tn_9, .ref tn_10, .int tnv11, .ref tn_12, .ref tn_13, .ref tn_14, .ref tn_15, .int tnv16, .ref tn_17, .ref tn_18, .ref tnt]))]) [4] (by decide) rfl
  have hFc := va_free (wc := [(tn, .inr (10, [.int tnv0, .int tnv1, .int tnv2, .ref tn_3, .ref tn_4, .ref tn_5, .ref tn_6, .int tnv7, .int tnv8, .ref tn_9, .ref tn_10, .int tnv11, .ref tn_12, .ref tn_13, .ref tn_14, .ref tn_15, .int tnv16, .ref tn_17, .ref tn_18, .ref tnt]))]) hD hS hA [4] rfl
  refine va_calli (va_runV (C := RX10) (As := []) (rest := [.ref tn, .ref oba]) ⟨hx, hb, hml, hown, hts⟩ (c_X10_openLanes l D k tn tnv0 tnv1 tnv2 tn_3 tn_4 tn_5 tn_6 tnv7 tnv8 tn_9 tn_10 tnv11 tn_12 tn_13 tn_14 tn_15 tnv16 tn_17 tn_18 tnt s.heap.size (show 0 ≤ tnv0.toInt ∧ tnv0.toInt ≤ 8 from by omega) (show 0 ≤ tnv2.toInt ∧ tnv2.toInt ≤ 10 from by omega) (show 0 ≤ tnv8.toInt ∧ tnv8.toInt ≤ 4 from by omega) (show 0 ≤ tnv11.toInt ∧ tnv11.toInt ≤ 6 from by omega) (show 0 ≤ tnv16.toInt ∧ tnv16.toInt ≤ 2 from by omega)) (cwV 0 hts (gV tw_5_155 tw_3_180 tw_3_181 tw_1_3 tw_3_182) rfl rfl rfl hdV_X10_openLanes ⟨Nat.le_of_ble_eq_true rfl, Nat.le_of_ble_eq_true rfl⟩) (cz_V hK hPc hDc hN (ci := 10) (q0 := 0) rfl rfl []) rfl rfl hl.1 rfl (lv_room (Nat.le_of_ble_eq_true rfl)) dX3_weighLanes_6 ⟨Nat.le_of_ble_eq_true rfl, Nat.le_of_ble_eq_true rfl⟩) hS (fun q _ h => hFc q h) hFc (fun r_1 uZ tZ H1 locs ht hvm hw hB hz1 hk1 hS => ?_)
  obtain ⟨hP1, hK1, hD1⟩ := hB
  rw [ht] at hP1
  obtain ⟨hP, hD⟩ := va_join (wr := [(ob, .inr (3, [.ref oba, .ref ob_1])), (oba, .inr (1, [.ref oba_0, .int obav1, .int obav2])), (oba_0, .inl (k 0, 8, .inl obag0)), (ob_1, .inl (k 2, 1000, .inr (.inl obg1))), (tn_3, .inl (k 0, 10, .inl tng3)), (tn_4, .inl (k 0, 10, .inl tng4)), (tn_5, .inl (k 0, 10, .inl tng5)), (tn_6, .inl (k 0, 10, .inl tng6)), (tn_9, .inl (k 0, 4, .inl tng9)), (tn_10, .inl (k 0, 4, .inl tng10))]) (w1 := [(tn, .inr (10, [.int tnv0, .int tnv1, .int tnv2, .ref tn_3, .ref tn_4, .ref tn_5, .ref tn_6, .int tnv7, .int tnv8, .ref tn_9, .ref tn_10, .int tnv11, .ref tn_12, .ref tn_13, .ref tn_14, .ref tn_15, .int tnv16, .ref tn_17, .ref tn_18, .ref tnt]))]) hP hD [4] [0, 1, 2, 3, 5, 6, 7, 8, 9, 10] rfl rfl (by decide) (by decide) hk1 hFc hP1 hD1
  clear hK1 hP1 hD1 hPc hDc hFc
  clear hk1 hz1 ht hvm
  have hP : va_P D vwCl [(ob, .inr (3, [.ref oba, .ref ob_1])), (oba, .inr (1, [.ref oba_0, .int obav1, .int obav2])), (oba_0, .inl (k 0, 8, .inl obag0)), (ob_1, .inl (k 2, 1000, .inr (.inl obg1))), (tn_3, .inl (k 0, 10, .inl tng3)), (tn_4, .inl (k 0, 10, .inl tng4)), (tn_5, .inl (k 0, 10, .inl tng5)), (tn_6, .inl (k 0, 10, .inl tng6)), (tn_9, .inl (k 0, 4, .inl tng9)), (tn_10, .inl (k 0, 4, .inl tng10)), (tn, .inr (10, [.int tnv0, .int tnv1, .int tnv2, .ref tn_3, .ref tn_4, .ref tn_5, .ref tn_6, .int tnv7, .int tnv8, .ref tn_9, .ref tn_10, .int tnv11, .ref tn_12, .ref tn_13, .ref tn_14, .ref tn_15, .int tnv16, .ref tn_17, .ref tn_18, .ref tnt]))] H1 := hP
  have hD : va_D A [(ob, .inr (3, [.ref oba, .ref ob_1])), (oba, .inr (1, [.ref oba_0, .int obav1, .int obav2])), (oba_0, .inl (k 0, 8, .inl obag0)), (ob_1, .inl (k 2, 1000, .inr (.inl obg1))), (tn_3, .inl (k 0, 10, .inl tng3)), (tn_4, .inl (k 0, 10, .inl tng4)), (tn_5, .inl (k 0, 10, .inl tng5)), (tn_6, .inl (k 0, 10, .inl tng6)), (tn_9, .inl (k 0, 4, .inl tng9)), (tn_10, .inl (k 0, 4, .inl tng10)), (tn, .inr (10, [.int tnv0, .int tnv1, .int tnv2, .ref tn_3, .ref tn_4, .ref tn_5, .ref tn_6, .int tnv7, .int tnv8, .ref tn_9, .ref tn_10, .int tnv11, .ref tn_12, .ref tn_13, .ref tn_14, .ref tn_15, .int tnv16, .ref tn_17, .ref tn_18, .ref tnt]))] := hD
  generalize H1 = H at hP hS ⊢
  have hw_2 : (0 ≤ r_1.toInt ∧ r_1.toInt ≤ 1023) := hw
  have hw_3 := hw_2
  clear hw
  refine lv_iload hx hb dX3_weighLanes_9 (lv_at hl 4 rfl) ?_
  have hPc := hP.sub (ws' := [(oba, .inr (1, [.ref oba_0, .int obav1, .int obav2])), (oba_0, .inl (k 0, 8, .inl obag0)), (tn, .inr (10, [.int tnv0, .int tnv1, .int tnv2, .ref tn_3, .ref tn_4, .ref tn_5, .ref tn_6, .int tnv7, .int tnv8, .ref tn_9, .ref tn_10, .int tnv11, .ref tn_12, .ref tn_13, .ref tn_14, .ref tn_15, .int tnv16, .ref tn_17, .ref tn_18, .ref tnt])), (tn_3, .inl (k 0, 10, .inl tng3)), (tn_4, .inl (k 0, 10, .inl tng4)), (tn_5, .inl (k 0, 10, .inl tng5)), (tn_9, .inl (k 0, 4, .inl tng9)), (tn_10, .inl (k 0, 4, .inl tng10))]) [1, 2, 10, 4, 5, 6, 8, 9] rfl
  have hDc := hD.sub (ws' := [(oba, .inr (1, [.ref oba_0, .int obav1, .int obav2])), (oba_0, .inl (k 0, 8, .inl obag0)), (tn, .inr (10, [.int tnv0, .int tnv1, .int tnv2, .ref tn_3, .ref tn_4, .ref tn_5, .ref tn_6, .int tnv7, .int tnv8, .ref tn_9, .ref tn_10, .int tnv11, .ref tn_12, .ref tn_13, .ref tn_14, .ref tn_15, .int tnv16, .ref tn_17, .ref tn_18, .ref tnt])), (tn_3, .inl (k 0, 10, .inl tng3)), (tn_4, .inl (k 0, 10, .inl tng4)), (tn_5, .inl (k 0, 10, .inl tng5)), (tn_9, .inl (k 0, 4, .inl tng9)), (tn_10, .inl (k 0, 4, .inl tng10))]) [1, 2, 10, 4, 5, 6, 8, 9] (by decide) rfl
  have hFc := va_free (wc := [(oba, .inr (1, [.ref oba_0, .int obav1, .int obav2])), (oba_0, .inl (k 0, 8, .inl obag0)), (tn, .inr (10, [.int tnv0, .int tnv1, .int tnv2, .ref tn_3, .ref tn_4, .ref tn_5, .ref tn_6, .int tnv7, .int tnv8, .ref tn_9, .ref tn_10, .int tnv11, .ref tn_12, .ref tn_13, .ref tn_14, .ref tn_15, .int tnv16, .ref tn_17, .ref tn_18, .ref tnt])), (tn_3, .inl (k 0, 10, .inl tng3)), (tn_4, .inl (k 0, 10, .inl tng4)), (tn_5, .inl (k 0, 10, .inl tng5)), (tn_9, .inl (k 0, 4, .inl tng9)), (tn_10, .inl (k 0, 4, .inl tng10))]) hD hS hA [1, 2, 10, 4, 5, 6, 8, 9] rfl
  refine va_callv (va_runV (C := RX1) (As := [.ref tn, .int r_1, .int p3]) (rest := []) ⟨hx, hb, hml, hown, hts⟩ (c_X1_fall l D k oba tn r_1 p3 oba_0 obav1 obav2 obag0 tnv0 tnv1 tnv2 tn_3 tn_4 tn_5 tn_6 tnv7 tnv8 tn_9 tn_10 tnv11 tn_12 tn_13 tn_14 tn_15 tnv16 tn_17 tn_18 tnt tng3 tng4 tng5 tng9 tng10 H.size hp_obag0_0 (show 0 ≤ tnv0.toInt ∧ tnv0.toInt ≤ 8 from by omega) (show 0 ≤ tnv2.toInt ∧ tnv2.toInt ≤ 10 from by omega) (show 0 ≤ tnv8.toInt ∧ tnv8.toInt ≤ 4 from by omega) (show 0 ≤ tnv11.toInt ∧ tnv11.toInt ≤ 6 from by omega) (show 0 ≤ tnv16.toInt ∧ tnv16.toInt ≤ 2 from by omega) hp_tng3_0 hp_tng4_0 hp_tng5_0 hp_tng9_0 hp_tng10_0) (cwV 3 hts (gV tw_5_156 tw_3_184 tw_3_185 tw_1_6 tw_3_186) rfl rfl rfl hdV_X1_fall ⟨Nat.le_of_ble_eq_true rfl, Nat.le_of_ble_eq_true rfl⟩) (cz_V hK hPc hDc hN (ci := 1) (q0 := 0) rfl rfl [.ref tn, .int r_1, .int p3]) rfl rfl hl.1 rfl (lv_room (Nat.le_of_ble_eq_true rfl)) dX3_weighLanes_11 ⟨Nat.le_of_ble_eq_true rfl, Nat.le_of_ble_eq_true rfl⟩) hS (fun q _ h => hFc q h) hFc (fun uZ tZ H1 locs ht hvm hw hB hz1 hk1 hS => ?_)
  obtain ⟨o_5, o_6, o_7⟩ := uZ
  obtain ⟨hP1, hK1, hD1⟩ := hB
  rw [ht] at hP1
  obtain ⟨hP, hD⟩ := va_join (wr := [(ob, .inr (3, [.ref oba, .ref ob_1])), (ob_1, .inl (k 2, 1000, .inr (.inl obg1))), (tn_6, .inl (k 0, 10, .inl tng6))]) (w1 := [(oba, .inr (1, [.ref oba_0, .int o_5, .int o_6])), (oba_0, .inl (k 0, 8, .inl o_7)), (tn, .inr (10, [.int tnv0, .int tnv1, .int tnv2, .ref tn_3, .ref tn_4, .ref tn_5, .ref tn_6, .int tnv7, .int tnv8, .ref tn_9, .ref tn_10, .int tnv11, .ref tn_12, .ref tn_13, .ref tn_14, .ref tn_15, .int tnv16, .ref tn_17, .ref tn_18, .ref tnt])), (tn_3, .inl (k 0, 10, .inl tng3)), (tn_4, .inl (k 0, 10, .inl tng4)), (tn_5, .inl (k 0, 10, .inl tng5)), (tn_9, .inl (k 0, 4, .inl tng9)), (tn_10, .inl (k 0, 4, .inl tng10))]) hP hD [1, 2, 10, 4, 5, 6, 8, 9] [0, 3, 7] rfl rfl (by decide) (by decide) hk1 hFc hP1 hD1
  clear hK1 hP1 hD1 hPc hDc hFc
  clear hk1 hz1 ht hvm
  have hP : va_P D vwCl [(ob, .inr (3, [.ref oba, .ref ob_1])), (ob_1, .inl (k 2, 1000, .inr (.inl obg1))), (tn_6, .inl (k 0, 10, .inl tng6)), (oba, .inr (1, [.ref oba_0, .int o_5, .int o_6])), (oba_0, .inl (k 0, 8, .inl o_7)), (tn, .inr (10, [.int tnv0, .int tnv1, .int tnv2, .ref tn_3, .ref tn_4, .ref tn_5, .ref tn_6, .int tnv7, .int tnv8, .ref tn_9, .ref tn_10, .int tnv11, .ref tn_12, .ref tn_13, .ref tn_14, .ref tn_15, .int tnv16, .ref tn_17, .ref tn_18, .ref tnt])), (tn_3, .inl (k 0, 10, .inl tng3)), (tn_4, .inl (k 0, 10, .inl tng4)), (tn_5, .inl (k 0, 10, .inl tng5)), (tn_9, .inl (k 0, 4, .inl tng9)), (tn_10, .inl (k 0, 4, .inl tng10))] H1 := hP
  have hD : va_D A [(ob, .inr (3, [.ref oba, .ref ob_1])), (ob_1, .inl (k 2, 1000, .inr (.inl obg1))), (tn_6, .inl (k 0, 10, .inl tng6)), (oba, .inr (1, [.ref oba_0, .int o_5, .int o_6])), (oba_0, .inl (k 0, 8, .inl o_7)), (tn, .inr (10, [.int tnv0, .int tnv1, .int tnv2, .ref tn_3, .ref tn_4, .ref tn_5, .ref tn_6, .int tnv7, .int tnv8, .ref tn_9, .ref tn_10, .int tnv11, .ref tn_12, .ref tn_13, .ref tn_14, .ref tn_15, .int tnv16, .ref tn_17, .ref tn_18, .ref tnt])), (tn_3, .inl (k 0, 10, .inl tng3)), (tn_4, .inl (k 0, 10, .inl tng4)), (tn_5, .inl (k 0, 10, .inl tng5)), (tn_9, .inl (k 0, 4, .inl tng9)), (tn_10, .inl (k 0, 4, .inl tng10))] := hD
  generalize H1 = H at hP hS ⊢
  have hw_8 : (PR 8 1 0 0 1000000 o_7) := hw
  have hw_9 := hw_8
  clear hw
  refine lv_aload_n hx hb dX3_weighLanes_14 rfl (lv_at hl 0 rfl) ?_
  refine va_get (D := D) (ci := 3) (v := .ref oba) (C := RX3) (T := TX3) (N := 2) hx hb hts iT_X3 hown hK hP 0 rfl rfl 0 (by decide) (hts _ tw_2_163) (fun _ h9 => h9) rfl dX3_weighLanes_15 ?_
  refine va_get (D := D) (ci := 1) (v := .ref oba_0) (C := RX1) (T := TX1) (N := 3) hx hb hts iT_X1 hown hK hP 3 rfl rfl 0 (by decide) (hts _ tw_2_21) (fun _ h9 => h9) rfl dX3_weighLanes_18 ?_
  refine lv_iload_n hx hb dX3_weighLanes_21 rfl (lv_at hl 2 rfl) ?_
  refine va_iald hx hb hK hP 4 0 rfl rfl (z_in (by omega) (by omega)) dX3_weighLanes_22 ?_
  refine lv_topi (fun x_10 ex_10 => ?_)
  have zx_10r0 : 0 ≤ x_10.toInt ∧ x_10.toInt ≤ 1000000 := by rw [ex_10]; exact PR.ld hw_9 (by omega) (by omega) (by omega)
  refine lv_istore (lv' := [(8, .int x_10), (0, .ref ob), (1, .ref tn), (2, .int p1), (3, .int p2), (4, .int p3), (5, .long p4), (7, .int 3)]) hx hb dX3_weighLanes_23 hl (by decide) rfl (fun ls hl => ?_)
  refine lv_iload hx hb dX3_weighLanes_25 (lv_at hl 0 rfl) ?_
  refine lv_sipush (v := 1000) hx hb dX3_weighLanes_27 (by decide) ?_
  refine lv_icmp_lt (tgt := 34) hx hb dX3_weighLanes_30 (by decide) (fun h_11 => ?_) (fun h_11 => ?_)
  · skip
    have zh_11 : x_10.toInt < 1000 := z_lt h_11
    refine lv_aload_n hx hb dX3_weighLanes_34 rfl (lv_at hl 1 rfl) ?_
    refine va_get (D := D) (ci := 3) (v := .ref oba) (C := RX3) (T := TX3) (N := 2) hx hb hts iT_X3 hown hK hP 0 rfl rfl 0 (by decide) (hts _ tw_2_163) (fun _ h9 => h9) rfl dX3_weighLanes_35 ?_
    refine lv_aload_n hx hb dX3_weighLanes_38 rfl (lv_at hl 2 rfl) ?_
    refine lv_iload_n hx hb dX3_weighLanes_39 rfl (lv_at hl 3 rfl) ?_
    have hPc := hP.sub (ws' := [(oba, .inr (1, [.ref oba_0, .int o_5, .int o_6])), (oba_0, .inl (k 0, 8, .inl o_7)), (tn, .inr (10, [.int tnv0, .int tnv1, .int tnv2, .ref tn_3, .ref tn_4, .ref tn_5, .ref tn_6, .int tnv7, .int tnv8, .ref tn_9, .ref tn_10, .int tnv11, .ref tn_12, .ref tn_13, .ref tn_14, .ref tn_15, .int tnv16, .ref tn_17, .ref tn_18, .ref tnt])), (tn_3, .inl (k 0, 10, .inl tng3)), (tn_4, .inl (k 0, 10, .inl tng4)), (tn_5, .inl (k 0, 10, .inl tng5)), (tn_9, .inl (k 0, 4, .inl tng9)), (tn_10, .inl (k 0, 4, .inl tng10))]) [3, 4, 5, 6, 7, 8, 9, 10] rfl
    have hDc := hD.sub (ws' := [(oba, .inr (1, [.ref oba_0, .int o_5, .int o_6])), (oba_0, .inl (k 0, 8, .inl o_7)), (tn, .inr (10, [.int tnv0, .int tnv1, .int tnv2, .ref tn_3, .ref tn_4, .ref tn_5, .ref tn_6, .int tnv7, .int tnv8, .ref tn_9, .ref tn_10, .int tnv11, .ref tn_12, .ref tn_13, .ref tn_14, .ref tn_15, .int tnv16, .ref tn_17, .ref tn_18, .ref tnt])), (tn_3, .inl (k 0, 10, .inl tng3)), (tn_4, .inl (k 0, 10, .inl tng4)), (tn_5, .inl (k 0, 10, .inl tng5)), (tn_9, .inl (k 0, 4, .inl tng9)), (tn_10, .inl (k 0, 4, .inl tng10))]) [3, 4, 5, 6, 7, 8, 9, 10] (by decide) rfl
    have hFc := va_free (wc := [(oba, .inr (1, [.ref oba_0, .int o_5, .int o_6])), (oba_0, .inl (k 0, 8, .inl o_7)), (tn, .inr (10, [.int tnv0, .int tnv1, .int tnv2, .ref tn_3, .ref tn_4, .ref tn_5, .ref tn_6, .int tnv7, .int tnv8, .ref tn_9, .ref tn_10, .int tnv11, .ref tn_12, .ref tn_13, .ref tn_14, .ref tn_15, .int tnv16, .ref tn_17, .ref tn_18, .ref tnt])), (tn_3, .inl (k 0, 10, .inl tng3)), (tn_4, .inl (k 0, 10, .inl tng4)), (tn_5, .inl (k 0, 10, .inl tng5)), (tn_9, .inl (k 0, 4, .inl tng9)), (tn_10, .inl (k 0, 4, .inl tng10))]) hD hS hA [3, 4, 5, 6, 7, 8, 9, 10] rfl
    refine va_calli (va_runV (C := RX1) (As := [.ref tn, .int p1]) (rest := []) ⟨hx, hb, hml, hown, hts⟩ (c_X1_wayTo l D k oba tn p1 oba_0 o_5 o_6 o_7 tnv0 tnv1 tnv2 tn_3 tn_4 tn_5 tn_6 tnv7 tnv8 tn_9 tn_10 tnv11 tn_12 tn_13 tn_14 tn_15 tnv16 tn_17 tn_18 tnt tng3 tng4 tng5 tng9 tng10 H.size (show 0 ≤ p1.toInt ∧ p1.toInt ≤ 7 from by omega) hw_9 (show 0 ≤ tnv0.toInt ∧ tnv0.toInt ≤ 8 from by omega) (show 0 ≤ tnv2.toInt ∧ tnv2.toInt ≤ 10 from by omega) (show 0 ≤ tnv8.toInt ∧ tnv8.toInt ≤ 4 from by omega) (show 0 ≤ tnv11.toInt ∧ tnv11.toInt ≤ 6 from by omega) (show 0 ≤ tnv16.toInt ∧ tnv16.toInt ≤ 2 from by omega) hp_tng3_0 hp_tng4_0 hp_tng5_0 hp_tng9_0 hp_tng10_0) (cwV 2 hts (gV tw_5_157 tw_4_96 tw_4_97 tw_1_6 tw_4_98) rfl rfl rfl hdV_X1_wayTo ⟨Nat.le_of_ble_eq_true rfl, Nat.le_of_ble_eq_true rfl⟩) (cz_V hK hPc hDc hN (ci := 1) (q0 := 0) rfl rfl [.ref tn, .int p1]) rfl rfl hl.1 rfl (lv_room (Nat.le_of_ble_eq_true rfl)) dX3_weighLanes_40 ⟨Nat.le_of_ble_eq_true rfl, Nat.le_of_ble_eq_true rfl⟩) hS (fun q _ h => hFc q h) hFc (fun r_12 uZ tZ H1 locs ht hvm hw hB hz1 hk1 hS => ?_)
    obtain ⟨hP1, hK1, hD1⟩ := hB
    rw [ht] at hP1
    obtain ⟨hP, hD⟩ := va_join (wr := [(ob, .inr (3, [.ref oba, .ref ob_1])), (ob_1, .inl (k 2, 1000, .inr (.inl obg1))), (tn_6, .inl (k 0, 10, .inl tng6))]) (w1 := [(oba, .inr (1, [.ref oba_0, .int o_5, .int o_6])), (oba_0, .inl (k 0, 8, .inl o_7)), (tn, .inr (10, [.int tnv0, .int tnv1, .int tnv2, .ref tn_3, .ref tn_4, .ref tn_5, .ref tn_6, .int tnv7, .int tnv8, .ref tn_9, .ref tn_10, .int tnv11, .ref tn_12, .ref tn_13, .ref tn_14, .ref tn_15, .int tnv16, .ref tn_17, .ref tn_18, .ref tnt])), (tn_3, .inl (k 0, 10, .inl tng3)), (tn_4, .inl (k 0, 10, .inl tng4)), (tn_5, .inl (k 0, 10, .inl tng5)), (tn_9, .inl (k 0, 4, .inl tng9)), (tn_10, .inl (k 0, 4, .inl tng10))]) hP hD [3, 4, 5, 6, 7, 8, 9, 10] [0, 1, 2] rfl rfl (by decide) (by decide) hk1 hFc hP1 hD1
    clear hK1 hP1 hD1 hPc hDc hFc
    clear hk1 hz1 ht hvm
    have hP : va_P D vwCl [(ob, .inr (3, [.ref oba, .ref ob_1])), (ob_1, .inl (k 2, 1000, .inr (.inl obg1))), (tn_6, .inl (k 0, 10, .inl tng6)), (oba, .inr (1, [.ref oba_0, .int o_5, .int o_6])), (oba_0, .inl (k 0, 8, .inl o_7)), (tn, .inr (10, [.int tnv0, .int tnv1, .int tnv2, .ref tn_3, .ref tn_4, .ref tn_5, .ref tn_6, .int tnv7, .int tnv8, .ref tn_9, .ref tn_10, .int tnv11, .ref tn_12, .ref tn_13, .ref tn_14, .ref tn_15, .int tnv16, .ref tn_17, .ref tn_18, .ref tnt])), (tn_3, .inl (k 0, 10, .inl tng3)), (tn_4, .inl (k 0, 10, .inl tng4)), (tn_5, .inl (k 0, 10, .inl tng5)), (tn_9, .inl (k 0, 4, .inl tng9)), (tn_10, .inl (k 0, 4, .inl tng10))] H1 := hP
    have hD : va_D A [(ob, .inr (3, [.ref oba, .ref ob_1])), (ob_1, .inl (k 2, 1000, .inr (.inl obg1))), (tn_6, .inl (k 0, 10, .inl tng6)), (oba, .inr (1, [.ref oba_0, .int o_5, .int o_6])), (oba_0, .inl (k 0, 8, .inl o_7)), (tn, .inr (10, [.int tnv0, .int tnv1, .int tnv2, .ref tn_3, .ref tn_4, .ref tn_5, .ref tn_6, .int tnv7, .int tnv8, .ref tn_9, .ref tn_10, .int tnv11, .ref tn_12, .ref tn_13, .ref tn_14, .ref tn_15, .int tnv16, .ref tn_17, .ref tn_18, .ref tnt])), (tn_3, .inl (k 0, 10, .inl tng3)), (tn_4, .inl (k 0, 10, .inl tng4)), (tn_5, .inl (k 0, 10, .inl tng5)), (tn_9, .inl (k 0, 4, .inl tng9)), (tn_10, .inl (k 0, 4, .inl tng10))] := hD
    generalize H1 = H at hP hS ⊢
    have hw_13 : (0 ≤ r_12.toInt ∧ r_12.toInt ≤ 1023) := hw
    have hw_14 := hw_13
    clear hw
    refine lv_iload_n hx hb dX3_weighLanes_43 rfl (lv_at hl 4 rfl) ?_
    refine lv_iconst (v := (-1)) hx hb dX3_weighLanes_44 (by decide) ?_
    refine lv_ixor hx hb dX3_weighLanes_45 ?_
    refine lv_topi (fun x_15 ex_15 => ?_)
    have zrp2 := z_rng p2
    refine lv_iand hx hb dX3_weighLanes_46 ?_
    refine lv_topi (fun x_16 ex_16 => ?_)
    have zrx_15 := z_rng x_15
    have zx_16 : 0 ≤ x_16.toInt ∧ x_16.toInt ≤ r_12.toInt := by rw [ex_16]; exact z_andL (by omega)
    refine lv_istore (lv' := [(9, .int x_16), (8, .int x_10), (0, .ref ob), (1, .ref tn), (2, .int p1), (3, .int p2), (4, .int p3), (5, .long p4), (7, .int 3)]) hx hb dX3_weighLanes_47 hl (by decide) rfl (fun ls hl => ?_)
    refine lv_iload hx hb dX3_weighLanes_49 (lv_at hl 0 rfl) ?_
    refine lv_iload hx hb dX3_weighLanes_51 (lv_at hl 0 rfl) ?_
    refine lv_ineg hx hb dX3_weighLanes_53 ?_
    refine lv_topi (fun x_17 ex_17 => ?_)
    refine lv_iand hx hb dX3_weighLanes_54 ?_
    refine lv_topi (fun x_18 ex_18 => ?_)
    have zrx_17 := z_rng x_17
    have zx_18 : 0 ≤ x_18.toInt ∧ x_18.toInt ≤ x_16.toInt := by rw [ex_18]; exact z_andL (by omega)
    refine lv_iconst (v := 1) hx hb dX3_weighLanes_55 (by decide) ?_
    refine lv_isub hx hb dX3_weighLanes_56 ?_
    refine lv_topi (fun x_19 ex_19 => ?_)
    have zx_19 : x_19.toInt = x_18.toInt - 1 := by rw [ex_19]; exact z_sub rfl rfl (by omega) (by omega)
    have hPc := hP.sub (ws' := []) [] rfl
    have hDc := hD.sub (ws' := []) [] (by decide) rfl
    have hFc := va_free (wc := []) hD hS hA [] rfl
    refine va_calli (va_runS (As := [.int x_19]) (rest := []) ⟨hx, hb, hml, hown, hts⟩ (c_J6_bitCount_0f7a4 l D k x_19 H.size) (va_cwS 1 hts (gS tw_5_158 tw_4_101 tw_1_20 tw_4_102) rfl rfl rfl hdS_J6_bitCount_0f7a4 ⟨Nat.le_of_ble_eq_true rfl, Nat.le_of_ble_eq_true rfl⟩) (cz_S hK hPc hDc hN [.int x_19]) rfl rfl hl.1 rfl (lv_room (Nat.le_of_ble_eq_true rfl)) dX3_weighLanes_57 ⟨Nat.le_of_ble_eq_true rfl, Nat.le_of_ble_eq_true rfl⟩) hS (fun q _ h => hFc q h) hFc (fun r_20 uZ tZ H1 locs ht hvm hw hB hz1 hk1 hS => ?_)
    obtain ⟨hP1, hK1, hD1⟩ := hB
    rw [ht] at hP1
    obtain ⟨hP, hD⟩ := va_join (wr := [(ob, .inr (3, [.ref oba, .ref ob_1])), (ob_1, .inl (k 2, 1000, .inr (.inl obg1))), (tn_6, .inl (k 0, 10, .inl tng6)), (oba, .inr (1, [.ref oba_0, .int o_5, .int o_6])), (oba_0, .inl (k 0, 8, .inl o_7)), (tn, .inr (10, [.int tnv0, .int tnv1, .int tnv2, .ref tn_3, .ref tn_4, .ref tn_5, .ref tn_6, .int tnv7, .int tnv8, .ref tn_9, .ref tn_10, .int tnv11, .ref tn_12, .ref tn_13, .ref tn_14, .ref tn_15, .int tnv16, .ref tn_17, .ref tn_18, .ref tnt])), (tn_3, .inl (k 0, 10, .inl tng3)), (tn_4, .inl (k 0, 10, .inl tng4)), (tn_5, .inl (k 0, 10, .inl tng5)), (tn_9, .inl (k 0, 4, .inl tng9)), (tn_10, .inl (k 0, 4, .inl tng10))]) (w1 := []) hP hD [] [0, 1, 2, 3, 4, 5, 6, 7, 8, 9, 10] rfl rfl (by decide) (by decide) hk1 hFc hP1 hD1
    clear hK1 hP1 hD1 hPc hDc hFc
    clear hk1 hz1 ht hvm
    have hP : va_P D vwCl [(ob, .inr (3, [.ref oba, .ref ob_1])), (ob_1, .inl (k 2, 1000, .inr (.inl obg1))), (tn_6, .inl (k 0, 10, .inl tng6)), (oba, .inr (1, [.ref oba_0, .int o_5, .int o_6])), (oba_0, .inl (k 0, 8, .inl o_7)), (tn, .inr (10, [.int tnv0, .int tnv1, .int tnv2, .ref tn_3, .ref tn_4, .ref tn_5, .ref tn_6, .int tnv7, .int tnv8, .ref tn_9, .ref tn_10, .int tnv11, .ref tn_12, .ref tn_13, .ref tn_14, .ref tn_15, .int tnv16, .ref tn_17, .ref tn_18, .ref tnt])), (tn_3, .inl (k 0, 10, .inl tng3)), (tn_4, .inl (k 0, 10, .inl tng4)), (tn_5, .inl (k 0, 10, .inl tng5)), (tn_9, .inl (k 0, 4, .inl tng9)), (tn_10, .inl (k 0, 4, .inl tng10))] H1 := hP
    have hD : va_D A [(ob, .inr (3, [.ref oba, .ref ob_1])), (ob_1, .inl (k 2, 1000, .inr (.inl obg1))), (tn_6, .inl (k 0, 10, .inl tng6)), (oba, .inr (1, [.ref oba_0, .int o_5, .int o_6])), (oba_0, .inl (k 0, 8, .inl o_7)), (tn, .inr (10, [.int tnv0, .int tnv1, .int tnv2, .ref tn_3, .ref tn_4, .ref tn_5, .ref tn_6, .int tnv7, .int tnv8, .ref tn_9, .ref tn_10, .int tnv11, .ref tn_12, .ref tn_13, .ref tn_14, .ref tn_15, .int tnv16, .ref tn_17, .ref tn_18, .ref tnt])), (tn_3, .inl (k 0, 10, .inl tng3)), (tn_4, .inl (k 0, 10, .inl tng4)), (tn_5, .inl (k 0, 10, .inl tng5)), (tn_9, .inl (k 0, 4, .inl tng9)), (tn_10, .inl (k 0, 4, .inl tng10))] := hD
    generalize H1 = H at hP hS ⊢
    have hw_21 : (0 ≤ r_20.toInt ∧ r_20.toInt ≤ 63) := hw
    have hw_22 := hw_21
    clear hw
    refine lv_istore (lv' := [(10, .int r_20), (9, .int x_16), (8, .int x_10), (0, .ref ob), (1, .ref tn), (2, .int p1), (3, .int p2), (4, .int p3), (5, .long p4), (7, .int 3)]) hx hb dX3_weighLanes_60 hl (by decide) rfl (fun ls hl => ?_)
    refine lv_iload hx hb dX3_weighLanes_62 (lv_at hl 1 rfl) ?_
    refine lv_if_eq (tgt := 81) hx hb dX3_weighLanes_64 (by decide) (fun h_23 => ?_) (fun h_23 => ?_)
    · skip
      have zh_23 : x_16.toInt = 0 := z_eq h_23
      refine lv_aload_n hx hb dX3_weighLanes_81 rfl (lv_at hl 3 rfl) ?_
      refine va_get (D := D) (ci := 3) (v := .ref ob_1) (C := RX3) (T := TX3) (N := 2) hx hb hts iT_X3 hown hK hP 0 rfl rfl 1 (by decide) (hts _ tw_2_164) (fun _ h9 => h9) rfl dX3_weighLanes_82 ?_
      refine lv_iload hx hb dX3_weighLanes_85 (lv_at hl 2 rfl) ?_
      refine lv_dup2_11 hx hb dX3_weighLanes_87 rfl rfl ?_
      refine va_lald hx hb hK hP 1 2 rfl rfl (z_in (by omega) (by omega)) dX3_weighLanes_88 ?_
      refine lv_topl (fun x_24 ex_24 => ?_)
      refine lv_lload hx hb dX3_weighLanes_89 (lv_at hl 8 rfl) ?_
      refine lv_ladd hx hb dX3_weighLanes_91 ?_
      refine lv_topl (fun x_25 ex_25 => ?_)
      refine va_last hx hb hK hP hD hS 1 2 rfl rfl (z_in (by omega) (by omega)) dX3_weighLanes_92 (fun H locs hP hD hS => ?_)
      obtain ⟨g_26, eg_26⟩ : ∃ z : Nat → Int64, vp_updL obg1 x_10.toNatClampNeg x_25 = z := ⟨_, rfl⟩
      have hP : va_P D vwCl [(ob, .inr (3, [.ref oba, .ref ob_1])), (ob_1, .inl (k 2, 1000, .inr (.inl (vp_updL obg1 x_10.toNatClampNeg x_25)))), (tn_6, .inl (k 0, 10, .inl tng6)), (oba, .inr (1, [.ref oba_0, .int o_5, .int o_6])), (oba_0, .inl (k 0, 8, .inl o_7)), (tn, .inr (10, [.int tnv0, .int tnv1, .int tnv2, .ref tn_3, .ref tn_4, .ref tn_5, .ref tn_6, .int tnv7, .int tnv8, .ref tn_9, .ref tn_10, .int tnv11, .ref tn_12, .ref tn_13, .ref tn_14, .ref tn_15, .int tnv16, .ref tn_17, .ref tn_18, .ref tnt])), (tn_3, .inl (k 0, 10, .inl tng3)), (tn_4, .inl (k 0, 10, .inl tng4)), (tn_5, .inl (k 0, 10, .inl tng5)), (tn_9, .inl (k 0, 4, .inl tng9)), (tn_10, .inl (k 0, 4, .inl tng10))] H := hP
      have hD : va_D A [(ob, .inr (3, [.ref oba, .ref ob_1])), (ob_1, .inl (k 2, 1000, .inr (.inl (vp_updL obg1 x_10.toNatClampNeg x_25)))), (tn_6, .inl (k 0, 10, .inl tng6)), (oba, .inr (1, [.ref oba_0, .int o_5, .int o_6])), (oba_0, .inl (k 0, 8, .inl o_7)), (tn, .inr (10, [.int tnv0, .int tnv1, .int tnv2, .ref tn_3, .ref tn_4, .ref tn_5, .ref tn_6, .int tnv7, .int tnv8, .ref tn_9, .ref tn_10, .int tnv11, .ref tn_12, .ref tn_13, .ref tn_14, .ref tn_15, .int tnv16, .ref tn_17, .ref tn_18, .ref tnt])), (tn_3, .inl (k 0, 10, .inl tng3)), (tn_4, .inl (k 0, 10, .inl tng4)), (tn_5, .inl (k 0, 10, .inl tng5)), (tn_9, .inl (k 0, 4, .inl tng9)), (tn_10, .inl (k 0, 4, .inl tng10))] := hD
      rw [eg_26] at hP hD
      have hP9 := hP.sub (ws' := [(ob, .inr (3, [.ref oba, .ref ob_1])), (oba, .inr (1, [.ref oba_0, .int o_5, .int o_6])), (oba_0, .inl (k 0, 8, .inl o_7)), (ob_1, .inl (k 2, 1000, .inr (.inl g_26))), (tn, .inr (10, [.int tnv0, .int tnv1, .int tnv2, .ref tn_3, .ref tn_4, .ref tn_5, .ref tn_6, .int tnv7, .int tnv8, .ref tn_9, .ref tn_10, .int tnv11, .ref tn_12, .ref tn_13, .ref tn_14, .ref tn_15, .int tnv16, .ref tn_17, .ref tn_18, .ref tnt])), (tn_3, .inl (k 0, 10, .inl tng3)), (tn_4, .inl (k 0, 10, .inl tng4)), (tn_5, .inl (k 0, 10, .inl tng5)), (tn_6, .inl (k 0, 10, .inl tng6)), (tn_9, .inl (k 0, 4, .inl tng9)), (tn_10, .inl (k 0, 4, .inl tng10))]) [0, 3, 4, 1, 5, 6, 7, 8, 2, 9, 10] rfl
      have hD9 := hD.sub (ws' := [(ob, .inr (3, [.ref oba, .ref ob_1])), (oba, .inr (1, [.ref oba_0, .int o_5, .int o_6])), (oba_0, .inl (k 0, 8, .inl o_7)), (ob_1, .inl (k 2, 1000, .inr (.inl g_26))), (tn, .inr (10, [.int tnv0, .int tnv1, .int tnv2, .ref tn_3, .ref tn_4, .ref tn_5, .ref tn_6, .int tnv7, .int tnv8, .ref tn_9, .ref tn_10, .int tnv11, .ref tn_12, .ref tn_13, .ref tn_14, .ref tn_15, .int tnv16, .ref tn_17, .ref tn_18, .ref tnt])), (tn_3, .inl (k 0, 10, .inl tng3)), (tn_4, .inl (k 0, 10, .inl tng4)), (tn_5, .inl (k 0, 10, .inl tng5)), (tn_6, .inl (k 0, 10, .inl tng6)), (tn_9, .inl (k 0, 4, .inl tng9)), (tn_10, .inl (k 0, 4, .inl tng10))]) [0, 3, 4, 1, 5, 6, 7, 8, 2, 9, 10] (by decide) rfl
      exact W.vret hx hb hr (fun tZ ht hW => ⟨⟨(o_5, o_6, o_7, g_26), rfl, hw_9, by rw [ht]; exact hP9, va_K.moved hW.alike hK, hD9⟩, hS.F ht⟩) hS.2.2 dX3_weighLanes_93
    · skip
      have zh_23 : ¬ x_16.toInt = 0 := z_ne h_23
      refine lv_iload hx hb dX3_weighLanes_67 (lv_at hl 0 rfl) ?_
      refine lv_bipush (v := 10) hx hb dX3_weighLanes_69 (by decide) ?_
      refine lv_icmp_ge (tgt := 81) hx hb dX3_weighLanes_71 (by decide) (fun h_27 => ?_) (fun h_27 => ?_)
      · skip
        have zh_27 : 10 ≤ r_20.toInt := z_le h_27
        refine lv_aload_n hx hb dX3_weighLanes_81 rfl (lv_at hl 3 rfl) ?_
        refine va_get (D := D) (ci := 3) (v := .ref ob_1) (C := RX3) (T := TX3) (N := 2) hx hb hts iT_X3 hown hK hP 0 rfl rfl 1 (by decide) (hts _ tw_2_164) (fun _ h9 => h9) rfl dX3_weighLanes_82 ?_
        refine lv_iload hx hb dX3_weighLanes_85 (lv_at hl 2 rfl) ?_
        refine lv_dup2_11 hx hb dX3_weighLanes_87 rfl rfl ?_
        refine va_lald hx hb hK hP 1 2 rfl rfl (z_in (by omega) (by omega)) dX3_weighLanes_88 ?_
        refine lv_topl (fun x_28 ex_28 => ?_)
        refine lv_lload hx hb dX3_weighLanes_89 (lv_at hl 8 rfl) ?_
        refine lv_ladd hx hb dX3_weighLanes_91 ?_
        refine lv_topl (fun x_29 ex_29 => ?_)
        refine va_last hx hb hK hP hD hS 1 2 rfl rfl (z_in (by omega) (by omega)) dX3_weighLanes_92 (fun H locs hP hD hS => ?_)
        obtain ⟨g_30, eg_30⟩ : ∃ z : Nat → Int64, vp_updL obg1 x_10.toNatClampNeg x_29 = z := ⟨_, rfl⟩
        have hP : va_P D vwCl [(ob, .inr (3, [.ref oba, .ref ob_1])), (ob_1, .inl (k 2, 1000, .inr (.inl (vp_updL obg1 x_10.toNatClampNeg x_29)))), (tn_6, .inl (k 0, 10, .inl tng6)), (oba, .inr (1, [.ref oba_0, .int o_5, .int o_6])), (oba_0, .inl (k 0, 8, .inl o_7)), (tn, .inr (10, [.int tnv0, .int tnv1, .int tnv2, .ref tn_3, .ref tn_4, .ref tn_5, .ref tn_6, .int tnv7, .int tnv8, .ref tn_9, .ref tn_10, .int tnv11, .ref tn_12, .ref tn_13, .ref tn_14, .ref tn_15, .int tnv16, .ref tn_17, .ref tn_18, .ref tnt])), (tn_3, .inl (k 0, 10, .inl tng3)), (tn_4, .inl (k 0, 10, .inl tng4)), (tn_5, .inl (k 0, 10, .inl tng5)), (tn_9, .inl (k 0, 4, .inl tng9)), (tn_10, .inl (k 0, 4, .inl tng10))] H := hP
        have hD : va_D A [(ob, .inr (3, [.ref oba, .ref ob_1])), (ob_1, .inl (k 2, 1000, .inr (.inl (vp_updL obg1 x_10.toNatClampNeg x_29)))), (tn_6, .inl (k 0, 10, .inl tng6)), (oba, .inr (1, [.ref oba_0, .int o_5, .int o_6])), (oba_0, .inl (k 0, 8, .inl o_7)), (tn, .inr (10, [.int tnv0, .int tnv1, .int tnv2, .ref tn_3, .ref tn_4, .ref tn_5, .ref tn_6, .int tnv7, .int tnv8, .ref tn_9, .ref tn_10, .int tnv11, .ref tn_12, .ref tn_13, .ref tn_14, .ref tn_15, .int tnv16, .ref tn_17, .ref tn_18, .ref tnt])), (tn_3, .inl (k 0, 10, .inl tng3)), (tn_4, .inl (k 0, 10, .inl tng4)), (tn_5, .inl (k 0, 10, .inl tng5)), (tn_9, .inl (k 0, 4, .inl tng9)), (tn_10, .inl (k 0, 4, .inl tng10))] := hD
        rw [eg_30] at hP hD
        have hP9 := hP.sub (ws' := [(ob, .inr (3, [.ref oba, .ref ob_1])), (oba, .inr (1, [.ref oba_0, .int o_5, .int o_6])), (oba_0, .inl (k 0, 8, .inl o_7)), (ob_1, .inl (k 2, 1000, .inr (.inl g_30))), (tn, .inr (10, [.int tnv0, .int tnv1, .int tnv2, .ref tn_3, .ref tn_4, .ref tn_5, .ref tn_6, .int tnv7, .int tnv8, .ref tn_9, .ref tn_10, .int tnv11, .ref tn_12, .ref tn_13, .ref tn_14, .ref tn_15, .int tnv16, .ref tn_17, .ref tn_18, .ref tnt])), (tn_3, .inl (k 0, 10, .inl tng3)), (tn_4, .inl (k 0, 10, .inl tng4)), (tn_5, .inl (k 0, 10, .inl tng5)), (tn_6, .inl (k 0, 10, .inl tng6)), (tn_9, .inl (k 0, 4, .inl tng9)), (tn_10, .inl (k 0, 4, .inl tng10))]) [0, 3, 4, 1, 5, 6, 7, 8, 2, 9, 10] rfl
        have hD9 := hD.sub (ws' := [(ob, .inr (3, [.ref oba, .ref ob_1])), (oba, .inr (1, [.ref oba_0, .int o_5, .int o_6])), (oba_0, .inl (k 0, 8, .inl o_7)), (ob_1, .inl (k 2, 1000, .inr (.inl g_30))), (tn, .inr (10, [.int tnv0, .int tnv1, .int tnv2, .ref tn_3, .ref tn_4, .ref tn_5, .ref tn_6, .int tnv7, .int tnv8, .ref tn_9, .ref tn_10, .int tnv11, .ref tn_12, .ref tn_13, .ref tn_14, .ref tn_15, .int tnv16, .ref tn_17, .ref tn_18, .ref tnt])), (tn_3, .inl (k 0, 10, .inl tng3)), (tn_4, .inl (k 0, 10, .inl tng4)), (tn_5, .inl (k 0, 10, .inl tng5)), (tn_6, .inl (k 0, 10, .inl tng6)), (tn_9, .inl (k 0, 4, .inl tng9)), (tn_10, .inl (k 0, 4, .inl tng10))]) [0, 3, 4, 1, 5, 6, 7, 8, 2, 9, 10] (by decide) rfl
        exact W.vret hx hb hr (fun tZ ht hW => ⟨⟨(o_5, o_6, o_7, g_30), rfl, hw_9, by rw [ht]; exact hP9, va_K.moved hW.alike hK, hD9⟩, hS.F ht⟩) hS.2.2 dX3_weighLanes_93
      · skip
        have zh_27 : r_20.toInt < 10 := z_nle h_27
        refine lv_iload hx hb dX3_weighLanes_74 (lv_at hl 9 rfl) ?_
        refine lv_bipush (v := 10) hx hb dX3_weighLanes_76 (by decide) ?_
        refine lv_icmp_lt (tgt := 94) hx hb dX3_weighLanes_78 (by decide) (fun _ => ?_) (fun c9 => absurd c9 (by decide))
        refine lv_iconst (v := 1) hx hb dX3_weighLanes_94 (by decide) ?_
        refine lv_iload hx hb dX3_weighLanes_95 (lv_at hl 0 rfl) ?_
        refine lv_ishl hx hb dX3_weighLanes_97 ?_
        refine lv_topi (fun x_31 ex_31 => ?_)
        have zx_31 : 1 ≤ x_31.toInt ∧ x_31.toInt ≤ 512 := by rw [ex_31]; exact z_shl1 9 512 rfl (by decide) (by omega) (by omega)
        refine lv_istore (lv' := [(11, .int x_31), (10, .int r_20), (9, .int x_16), (8, .int x_10), (0, .ref ob), (1, .ref tn), (2, .int p1), (3, .int p2), (4, .int p3), (5, .long p4), (7, .int 3)]) hx hb dX3_weighLanes_98 hl (by decide) rfl (fun ls hl => ?_)
        refine lv_lload hx hb dX3_weighLanes_100 (lv_at hl 9 rfl) ?_
        refine lv_ldc2 (v := 10) hx hb hown (hts _ tw_5_159) dX3_weighLanes_102 ?_
        refine lv_ldiv hx hb dX3_weighLanes_105 (by decide) ?_
        refine lv_topl (fun x_32 ex_32 => ?_)
        refine lv_lstore (lv' := [(12, .long x_32), (11, .int x_31), (10, .int r_20), (9, .int x_16), (8, .int x_10), (0, .ref ob), (1, .ref tn), (2, .int p1), (3, .int p2), (4, .int p3), (5, .long p4), (7, .int 3)]) hx hb dX3_weighLanes_106 hl (by decide) rfl (fun ls hl => ?_)
        refine lv_aload_n hx hb dX3_weighLanes_108 rfl (lv_at hl 5 rfl) ?_
        refine lv_aload_n hx hb dX3_weighLanes_109 rfl (lv_at hl 6 rfl) ?_
        refine lv_iload_n hx hb dX3_weighLanes_110 rfl (lv_at hl 7 rfl) ?_
        refine lv_iload_n hx hb dX3_weighLanes_111 rfl (lv_at hl 8 rfl) ?_
        refine lv_iload hx hb dX3_weighLanes_112 (lv_at hl 1 rfl) ?_
        refine lv_ior hx hb dX3_weighLanes_114 ?_
        refine lv_topi (fun x_33 ex_33 => ?_)
        refine lv_iload hx hb dX3_weighLanes_115 (lv_at hl 9 rfl) ?_
        refine lv_lload hx hb dX3_weighLanes_117 (lv_at hl 0 rfl) ?_
        refine lv_bipush (v := 10) hx hb dX3_weighLanes_119 (by decide) ?_
        refine lv_aload_n hx hb dX3_weighLanes_121 rfl (lv_at hl 6 rfl) ?_
        refine va_get (D := D) (ci := 10) (v := .ref tn_6) (C := RX10) (T := TX10) (N := 20) hx hb hts iT_X10 hown hK hP 5 rfl rfl 6 (by decide) (hts _ tw_1_98) (fun _ h9 => h9) rfl dX3_weighLanes_122 ?_
        refine lv_iload hx hb dX3_weighLanes_125 (lv_at hl 2 rfl) ?_
        refine va_iald hx hb hK hP 2 0 rfl rfl (z_in (by omega) (by omega)) dX3_weighLanes_127 ?_
        refine lv_topi (fun x_34 ex_34 => ?_)
        have zx_34r0 : 0 ≤ x_34.toInt ∧ x_34.toInt ≤ 10 := by rw [ex_34]; exact PR.ld hp_tng6_0 (by omega) (by omega) (by omega)
        refine lv_isub hx hb dX3_weighLanes_128 ?_
        refine lv_topi (fun x_35 ex_35 => ?_)
        have zx_35 : x_35.toInt = 10 - x_34.toInt := by rw [ex_35]; exact z_sub rfl rfl (by omega) (by omega)
        refine lv_i2l (v := x_35.toInt64) hx hb dX3_weighLanes_129 rfl ?_
        refine lv_lmul hx hb dX3_weighLanes_130 ?_
        refine lv_topl (fun x_36 ex_36 => ?_)
        refine lv_iload hx hb dX3_weighLanes_131 (lv_at hl 11 rfl) ?_
        refine lv_iconst (v := 1) hx hb dX3_weighLanes_133 (by decide) ?_
        refine lv_iadd hx hb dX3_weighLanes_134 ?_
        refine lv_topi (fun x_37 ex_37 => ?_)
        obtain rfl : x_37 = 4 := ex_37.trans (by decide)
        have hPc := hP.sub (ws' := [(ob, .inr (3, [.ref oba, .ref ob_1])), (oba, .inr (1, [.ref oba_0, .int o_5, .int o_6])), (oba_0, .inl (k 0, 8, .inl o_7)), (ob_1, .inl (k 2, 1000, .inr (.inl obg1))), (tn, .inr (10, [.int tnv0, .int tnv1, .int tnv2, .ref tn_3, .ref tn_4, .ref tn_5, .ref tn_6, .int tnv7, .int tnv8, .ref tn_9, .ref tn_10, .int tnv11, .ref tn_12, .ref tn_13, .ref tn_14, .ref tn_15, .int tnv16, .ref tn_17, .ref tn_18, .ref tnt])), (tn_3, .inl (k 0, 10, .inl tng3)), (tn_4, .inl (k 0, 10, .inl tng4)), (tn_5, .inl (k 0, 10, .inl tng5)), (tn_6, .inl (k 0, 10, .inl tng6)), (tn_9, .inl (k 0, 4, .inl tng9)), (tn_10, .inl (k 0, 4, .inl tng10))]) [0, 3, 4, 1, 5, 6, 7, 8, 2, 9, 10] rfl
        have hDc := hD.sub (ws' := [(ob, .inr (3, [.ref oba, .ref ob_1])), (oba, .inr (1, [.ref oba_0, .int o_5, .int o_6])), (oba_0, .inl (k 0, 8, .inl o_7)), (ob_1, .inl (k 2, 1000, .inr (.inl obg1))), (tn, .inr (10, [.int tnv0, .int tnv1, .int tnv2, .ref tn_3, .ref tn_4, .ref tn_5, .ref tn_6, .int tnv7, .int tnv8, .ref tn_9, .ref tn_10, .int tnv11, .ref tn_12, .ref tn_13, .ref tn_14, .ref tn_15, .int tnv16, .ref tn_17, .ref tn_18, .ref tnt])), (tn_3, .inl (k 0, 10, .inl tng3)), (tn_4, .inl (k 0, 10, .inl tng4)), (tn_5, .inl (k 0, 10, .inl tng5)), (tn_6, .inl (k 0, 10, .inl tng6)), (tn_9, .inl (k 0, 4, .inl tng9)), (tn_10, .inl (k 0, 4, .inl tng10))]) [0, 3, 4, 1, 5, 6, 7, 8, 2, 9, 10] (by decide) rfl
        have hFc := va_free (wc := [(ob, .inr (3, [.ref oba, .ref ob_1])), (oba, .inr (1, [.ref oba_0, .int o_5, .int o_6])), (oba_0, .inl (k 0, 8, .inl o_7)), (ob_1, .inl (k 2, 1000, .inr (.inl obg1))), (tn, .inr (10, [.int tnv0, .int tnv1, .int tnv2, .ref tn_3, .ref tn_4, .ref tn_5, .ref tn_6, .int tnv7, .int tnv8, .ref tn_9, .ref tn_10, .int tnv11, .ref tn_12, .ref tn_13, .ref tn_14, .ref tn_15, .int tnv16, .ref tn_17, .ref tn_18, .ref tnt])), (tn_3, .inl (k 0, 10, .inl tng3)), (tn_4, .inl (k 0, 10, .inl tng4)), (tn_5, .inl (k 0, 10, .inl tng5)), (tn_6, .inl (k 0, 10, .inl tng6)), (tn_9, .inl (k 0, 4, .inl tng9)), (tn_10, .inl (k 0, 4, .inl tng10))]) hD hS hA [0, 3, 4, 1, 5, 6, 7, 8, 2, 9, 10] rfl
        refine va_callv (va_runV (C := RX3) (As := [.ref tn, .int p1, .int x_33, .int p3, .long x_36, .int 4]) (rest := []) ⟨hx, hb, hml, hown, hts⟩ (c_X3_weighLanes_6 l D k ob tn p1 x_33 p3 x_36 oba ob_1 oba_0 o_5 o_6 o_7 obg1 tnv0 tnv1 tnv2 tn_3 tn_4 tn_5 tn_6 tnv7 tnv8 tn_9 tn_10 tnv11 tn_12 tn_13 tn_14 tn_15 tnv16 tn_17 tn_18 tnt tng3 tng4 tng5 tng6 tng9 tng10 H.size (show 0 ≤ p1.toInt ∧ p1.toInt ≤ 7 from by omega) hw_9 (show 0 ≤ tnv0.toInt ∧ tnv0.toInt ≤ 8 from by omega) (show 0 ≤ tnv2.toInt ∧ tnv2.toInt ≤ 10 from by omega) (show 0 ≤ tnv8.toInt ∧ tnv8.toInt ≤ 4 from by omega) (show 0 ≤ tnv11.toInt ∧ tnv11.toInt ≤ 6 from by omega) (show 0 ≤ tnv16.toInt ∧ tnv16.toInt ≤ 2 from by omega) hp_tng3_0 hp_tng4_0 hp_tng5_0 hp_tng6_0 hp_tng9_0 hp_tng10_0) (cwV 6 hts (gV tw_5_151 tw_5_153 tw_p_34 tw_1_12 tw_5_154) rfl rfl rfl hdV_X3_weighLanes ⟨Nat.le_of_ble_eq_true rfl, Nat.le_of_ble_eq_true rfl⟩) (cz_V hK hPc hDc hN (ci := 3) (q0 := 0) rfl rfl [.ref tn, .int p1, .int x_33, .int p3, .long x_36, .int 4]) rfl rfl hl.1 rfl (lv_room (Nat.le_of_ble_eq_true rfl)) dX3_weighLanes_135 ⟨Nat.le_of_ble_eq_true rfl, Nat.le_of_ble_eq_true rfl⟩) hS (fun q _ h => hFc q h) hFc (fun uZ tZ H1 locs ht hvm hw hB hz1 hk1 hS => ?_)
        obtain ⟨o_39, o_40, o_41, o_42⟩ := uZ
        obtain ⟨hP1, hK1, hD1⟩ := hB
        rw [ht] at hP1
        obtain ⟨hP, hD⟩ := va_join (wr := []) (w1 := [(ob, .inr (3, [.ref oba, .ref ob_1])), (oba, .inr (1, [.ref oba_0, .int o_39, .int o_40])), (oba_0, .inl (k 0, 8, .inl o_41)), (ob_1, .inl (k 2, 1000, .inr (.inl o_42))), (tn, .inr (10, [.int tnv0, .int tnv1, .int tnv2, .ref tn_3, .ref tn_4, .ref tn_5, .ref tn_6, .int tnv7, .int tnv8, .ref tn_9, .ref tn_10, .int tnv11, .ref tn_12, .ref tn_13, .ref tn_14, .ref tn_15, .int tnv16, .ref tn_17, .ref tn_18, .ref tnt])), (tn_3, .inl (k 0, 10, .inl tng3)), (tn_4, .inl (k 0, 10, .inl tng4)), (tn_5, .inl (k 0, 10, .inl tng5)), (tn_6, .inl (k 0, 10, .inl tng6)), (tn_9, .inl (k 0, 4, .inl tng9)), (tn_10, .inl (k 0, 4, .inl tng10))]) hP hD [0, 3, 4, 1, 5, 6, 7, 8, 2, 9, 10] [] rfl rfl (by decide) (by decide) hk1 hFc hP1 hD1
        clear hK1 hP1 hD1 hPc hDc hFc
        clear hk1 hz1 ht hvm
        have hP : va_P D vwCl [(ob, .inr (3, [.ref oba, .ref ob_1])), (oba, .inr (1, [.ref oba_0, .int o_39, .int o_40])), (oba_0, .inl (k 0, 8, .inl o_41)), (ob_1, .inl (k 2, 1000, .inr (.inl o_42))), (tn, .inr (10, [.int tnv0, .int tnv1, .int tnv2, .ref tn_3, .ref tn_4, .ref tn_5, .ref tn_6, .int tnv7, .int tnv8, .ref tn_9, .ref tn_10, .int tnv11, .ref tn_12, .ref tn_13, .ref tn_14, .ref tn_15, .int tnv16, .ref tn_17, .ref tn_18, .ref tnt])), (tn_3, .inl (k 0, 10, .inl tng3)), (tn_4, .inl (k 0, 10, .inl tng4)), (tn_5, .inl (k 0, 10, .inl tng5)), (tn_6, .inl (k 0, 10, .inl tng6)), (tn_9, .inl (k 0, 4, .inl tng9)), (tn_10, .inl (k 0, 4, .inl tng10))] H1 := hP
        have hD : va_D A [(ob, .inr (3, [.ref oba, .ref ob_1])), (oba, .inr (1, [.ref oba_0, .int o_39, .int o_40])), (oba_0, .inl (k 0, 8, .inl o_41)), (ob_1, .inl (k 2, 1000, .inr (.inl o_42))), (tn, .inr (10, [.int tnv0, .int tnv1, .int tnv2, .ref tn_3, .ref tn_4, .ref tn_5, .ref tn_6, .int tnv7, .int tnv8, .ref tn_9, .ref tn_10, .int tnv11, .ref tn_12, .ref tn_13, .ref tn_14, .ref tn_15, .int tnv16, .ref tn_17, .ref tn_18, .ref tnt])), (tn_3, .inl (k 0, 10, .inl tng3)), (tn_4, .inl (k 0, 10, .inl tng4)), (tn_5, .inl (k 0, 10, .inl tng5)), (tn_6, .inl (k 0, 10, .inl tng6)), (tn_9, .inl (k 0, 4, .inl tng9)), (tn_10, .inl (k 0, 4, .inl tng10))] := hD
        generalize H1 = H at hP hS ⊢
        have hw_43 : (PR 8 1 0 0 1000000 o_41) := hw
        have hw_44 := hw_43
        clear hw
        refine lv_aload_n hx hb dX3_weighLanes_138 rfl (lv_at hl 5 rfl) ?_
        refine lv_aload_n hx hb dX3_weighLanes_139 rfl (lv_at hl 6 rfl) ?_
        refine lv_iload_n hx hb dX3_weighLanes_140 rfl (lv_at hl 7 rfl) ?_
        refine lv_iload_n hx hb dX3_weighLanes_141 rfl (lv_at hl 8 rfl) ?_
        refine lv_iload hx hb dX3_weighLanes_142 (lv_at hl 1 rfl) ?_
        refine lv_ior hx hb dX3_weighLanes_144 ?_
        refine lv_topi (fun x_45 ex_45 => ?_)
        obtain rfl : x_33 = x_45 := ex_33.trans ex_45.symm
        refine lv_iload hx hb dX3_weighLanes_145 (lv_at hl 9 rfl) ?_
        refine lv_iload hx hb dX3_weighLanes_147 (lv_at hl 1 rfl) ?_
        refine lv_ior hx hb dX3_weighLanes_149 ?_
        refine lv_topi (fun x_46 ex_46 => ?_)
        have zrp3 := z_rng p3
        refine lv_lload hx hb dX3_weighLanes_150 (lv_at hl 0 rfl) ?_
        refine lv_aload_n hx hb dX3_weighLanes_152 rfl (lv_at hl 6 rfl) ?_
        refine va_get (D := D) (ci := 10) (v := .ref tn_6) (C := RX10) (T := TX10) (N := 20) hx hb hts iT_X10 hown hK hP 4 rfl rfl 6 (by decide) (hts _ tw_1_98) (fun _ h9 => h9) rfl dX3_weighLanes_153 ?_
        refine lv_iload hx hb dX3_weighLanes_156 (lv_at hl 2 rfl) ?_
        refine va_iald hx hb hK hP 8 0 rfl rfl (z_in (by omega) (by omega)) dX3_weighLanes_158 ?_
        refine lv_topi (fun x_47 ex_47 => ?_)
        obtain rfl : x_34 = x_47 := ex_34.trans ex_47.symm
        refine lv_i2l (v := x_34.toInt64) hx hb dX3_weighLanes_159 rfl ?_
        refine lv_lmul hx hb dX3_weighLanes_160 ?_
        refine lv_topl (fun x_48 ex_48 => ?_)
        refine lv_iload hx hb dX3_weighLanes_161 (lv_at hl 11 rfl) ?_
        refine lv_iconst (v := 1) hx hb dX3_weighLanes_163 (by decide) ?_
        refine lv_iadd hx hb dX3_weighLanes_164 ?_
        refine lv_topi (fun x_49 ex_49 => ?_)
        obtain rfl : x_49 = 4 := ex_49.trans (by decide)
        have hPc := hP.sub (ws' := [(ob, .inr (3, [.ref oba, .ref ob_1])), (oba, .inr (1, [.ref oba_0, .int o_39, .int o_40])), (oba_0, .inl (k 0, 8, .inl o_41)), (ob_1, .inl (k 2, 1000, .inr (.inl o_42))), (tn, .inr (10, [.int tnv0, .int tnv1, .int tnv2, .ref tn_3, .ref tn_4, .ref tn_5, .ref tn_6, .int tnv7, .int tnv8, .ref tn_9, .ref tn_10, .int tnv11, .ref tn_12, .ref tn_13, .ref tn_14, .ref tn_15, .int tnv16, .ref tn_17, .ref tn_18, .ref tnt])), (tn_3, .inl (k 0, 10, .inl tng3)), (tn_4, .inl (k 0, 10, .inl tng4)), (tn_5, .inl (k 0, 10, .inl tng5)), (tn_6, .inl (k 0, 10, .inl tng6)), (tn_9, .inl (k 0, 4, .inl tng9)), (tn_10, .inl (k 0, 4, .inl tng10))]) [0, 1, 2, 3, 4, 5, 6, 7, 8, 9, 10] rfl
        have hDc := hD.sub (ws' := [(ob, .inr (3, [.ref oba, .ref ob_1])), (oba, .inr (1, [.ref oba_0, .int o_39, .int o_40])), (oba_0, .inl (k 0, 8, .inl o_41)), (ob_1, .inl (k 2, 1000, .inr (.inl o_42))), (tn, .inr (10, [.int tnv0, .int tnv1, .int tnv2, .ref tn_3, .ref tn_4, .ref tn_5, .ref tn_6, .int tnv7, .int tnv8, .ref tn_9, .ref tn_10, .int tnv11, .ref tn_12, .ref tn_13, .ref tn_14, .ref tn_15, .int tnv16, .ref tn_17, .ref tn_18, .ref tnt])), (tn_3, .inl (k 0, 10, .inl tng3)), (tn_4, .inl (k 0, 10, .inl tng4)), (tn_5, .inl (k 0, 10, .inl tng5)), (tn_6, .inl (k 0, 10, .inl tng6)), (tn_9, .inl (k 0, 4, .inl tng9)), (tn_10, .inl (k 0, 4, .inl tng10))]) [0, 1, 2, 3, 4, 5, 6, 7, 8, 9, 10] (by decide) rfl
        have hFc := va_free (wc := [(ob, .inr (3, [.ref oba, .ref ob_1])), (oba, .inr (1, [.ref oba_0, .int o_39, .int o_40])), (oba_0, .inl (k 0, 8, .inl o_41)), (ob_1, .inl (k 2, 1000, .inr (.inl o_42))), (tn, .inr (10, [.int tnv0, .int tnv1, .int tnv2, .ref tn_3, .ref tn_4, .ref tn_5, .ref tn_6, .int tnv7, .int tnv8, .ref tn_9, .ref tn_10, .int tnv11, .ref tn_12, .ref tn_13, .ref tn_14, .ref tn_15, .int tnv16, .ref tn_17, .ref tn_18, .ref tnt])), (tn_3, .inl (k 0, 10, .inl tng3)), (tn_4, .inl (k 0, 10, .inl tng4)), (tn_5, .inl (k 0, 10, .inl tng5)), (tn_6, .inl (k 0, 10, .inl tng6)), (tn_9, .inl (k 0, 4, .inl tng9)), (tn_10, .inl (k 0, 4, .inl tng10))]) hD hS hA [0, 1, 2, 3, 4, 5, 6, 7, 8, 9, 10] rfl
        refine va_callv (va_runV (C := RX3) (As := [.ref tn, .int p1, .int x_33, .int x_46, .long x_48, .int 4]) (rest := []) ⟨hx, hb, hml, hown, hts⟩ (c_X3_weighLanes_6 l D k ob tn p1 x_33 x_46 x_48 oba ob_1 oba_0 o_39 o_40 o_41 o_42 tnv0 tnv1 tnv2 tn_3 tn_4 tn_5 tn_6 tnv7 tnv8 tn_9 tn_10 tnv11 tn_12 tn_13 tn_14 tn_15 tnv16 tn_17 tn_18 tnt tng3 tng4 tng5 tng6 tng9 tng10 H.size (show 0 ≤ p1.toInt ∧ p1.toInt ≤ 7 from by omega) hw_44 (show 0 ≤ tnv0.toInt ∧ tnv0.toInt ≤ 8 from by omega) (show 0 ≤ tnv2.toInt ∧ tnv2.toInt ≤ 10 from by omega) (show 0 ≤ tnv8.toInt ∧ tnv8.toInt ≤ 4 from by omega) (show 0 ≤ tnv11.toInt ∧ tnv11.toInt ≤ 6 from by omega) (show 0 ≤ tnv16.toInt ∧ tnv16.toInt ≤ 2 from by omega) hp_tng3_0 hp_tng4_0 hp_tng5_0 hp_tng6_0 hp_tng9_0 hp_tng10_0) (cwV 6 hts (gV tw_5_151 tw_5_153 tw_p_34 tw_1_12 tw_5_154) rfl rfl rfl hdV_X3_weighLanes ⟨Nat.le_of_ble_eq_true rfl, Nat.le_of_ble_eq_true rfl⟩) (cz_V hK hPc hDc hN (ci := 3) (q0 := 0) rfl rfl [.ref tn, .int p1, .int x_33, .int x_46, .long x_48, .int 4]) rfl rfl hl.1 rfl (lv_room (Nat.le_of_ble_eq_true rfl)) dX3_weighLanes_165 ⟨Nat.le_of_ble_eq_true rfl, Nat.le_of_ble_eq_true rfl⟩) hS (fun q _ h => hFc q h) hFc (fun uZ tZ H1 locs ht hvm hw hB hz1 hk1 hS => ?_)
        obtain ⟨o_51, o_52, o_53, o_54⟩ := uZ
        obtain ⟨hP1, hK1, hD1⟩ := hB
        rw [ht] at hP1
        obtain ⟨hP, hD⟩ := va_join (wr := []) (w1 := [(ob, .inr (3, [.ref oba, .ref ob_1])), (oba, .inr (1, [.ref oba_0, .int o_51, .int o_52])), (oba_0, .inl (k 0, 8, .inl o_53)), (ob_1, .inl (k 2, 1000, .inr (.inl o_54))), (tn, .inr (10, [.int tnv0, .int tnv1, .int tnv2, .ref tn_3, .ref tn_4, .ref tn_5, .ref tn_6, .int tnv7, .int tnv8, .ref tn_9, .ref tn_10, .int tnv11, .ref tn_12, .ref tn_13, .ref tn_14, .ref tn_15, .int tnv16, .ref tn_17, .ref tn_18, .ref tnt])), (tn_3, .inl (k 0, 10, .inl tng3)), (tn_4, .inl (k 0, 10, .inl tng4)), (tn_5, .inl (k 0, 10, .inl tng5)), (tn_6, .inl (k 0, 10, .inl tng6)), (tn_9, .inl (k 0, 4, .inl tng9)), (tn_10, .inl (k 0, 4, .inl tng10))]) hP hD [0, 1, 2, 3, 4, 5, 6, 7, 8, 9, 10] [] rfl rfl (by decide) (by decide) hk1 hFc hP1 hD1
        clear hK1 hP1 hD1 hPc hDc hFc
        clear hk1 hz1 ht hvm
        have hP : va_P D vwCl [(ob, .inr (3, [.ref oba, .ref ob_1])), (oba, .inr (1, [.ref oba_0, .int o_51, .int o_52])), (oba_0, .inl (k 0, 8, .inl o_53)), (ob_1, .inl (k 2, 1000, .inr (.inl o_54))), (tn, .inr (10, [.int tnv0, .int tnv1, .int tnv2, .ref tn_3, .ref tn_4, .ref tn_5, .ref tn_6, .int tnv7, .int tnv8, .ref tn_9, .ref tn_10, .int tnv11, .ref tn_12, .ref tn_13, .ref tn_14, .ref tn_15, .int tnv16, .ref tn_17, .ref tn_18, .ref tnt])), (tn_3, .inl (k 0, 10, .inl tng3)), (tn_4, .inl (k 0, 10, .inl tng4)), (tn_5, .inl (k 0, 10, .inl tng5)), (tn_6, .inl (k 0, 10, .inl tng6)), (tn_9, .inl (k 0, 4, .inl tng9)), (tn_10, .inl (k 0, 4, .inl tng10))] H1 := hP
        have hD : va_D A [(ob, .inr (3, [.ref oba, .ref ob_1])), (oba, .inr (1, [.ref oba_0, .int o_51, .int o_52])), (oba_0, .inl (k 0, 8, .inl o_53)), (ob_1, .inl (k 2, 1000, .inr (.inl o_54))), (tn, .inr (10, [.int tnv0, .int tnv1, .int tnv2, .ref tn_3, .ref tn_4, .ref tn_5, .ref tn_6, .int tnv7, .int tnv8, .ref tn_9, .ref tn_10, .int tnv11, .ref tn_12, .ref tn_13, .ref tn_14, .ref tn_15, .int tnv16, .ref tn_17, .ref tn_18, .ref tnt])), (tn_3, .inl (k 0, 10, .inl tng3)), (tn_4, .inl (k 0, 10, .inl tng4)), (tn_5, .inl (k 0, 10, .inl tng5)), (tn_6, .inl (k 0, 10, .inl tng6)), (tn_9, .inl (k 0, 4, .inl tng9)), (tn_10, .inl (k 0, 4, .inl tng10))] := hD
        generalize H1 = H at hP hS ⊢
        have hw_55 : (PR 8 1 0 0 1000000 o_53) := hw
        have hw_56 := hw_55
        clear hw
        have hP9 := hP.sub (ws' := [(ob, .inr (3, [.ref oba, .ref ob_1])), (oba, .inr (1, [.ref oba_0, .int o_51, .int o_52])), (oba_0, .inl (k 0, 8, .inl o_53)), (ob_1, .inl (k 2, 1000, .inr (.inl o_54))), (tn, .inr (10, [.int tnv0, .int tnv1, .int tnv2, .ref tn_3, .ref tn_4, .ref tn_5, .ref tn_6, .int tnv7, .int tnv8, .ref tn_9, .ref tn_10, .int tnv11, .ref tn_12, .ref tn_13, .ref tn_14, .ref tn_15, .int tnv16, .ref tn_17, .ref tn_18, .ref tnt])), (tn_3, .inl (k 0, 10, .inl tng3)), (tn_4, .inl (k 0, 10, .inl tng4)), (tn_5, .inl (k 0, 10, .inl tng5)), (tn_6, .inl (k 0, 10, .inl tng6)), (tn_9, .inl (k 0, 4, .inl tng9)), (tn_10, .inl (k 0, 4, .inl tng10))]) [0, 1, 2, 3, 4, 5, 6, 7, 8, 9, 10] rfl
        have hD9 := hD.sub (ws' := [(ob, .inr (3, [.ref oba, .ref ob_1])), (oba, .inr (1, [.ref oba_0, .int o_51, .int o_52])), (oba_0, .inl (k 0, 8, .inl o_53)), (ob_1, .inl (k 2, 1000, .inr (.inl o_54))), (tn, .inr (10, [.int tnv0, .int tnv1, .int tnv2, .ref tn_3, .ref tn_4, .ref tn_5, .ref tn_6, .int tnv7, .int tnv8, .ref tn_9, .ref tn_10, .int tnv11, .ref tn_12, .ref tn_13, .ref tn_14, .ref tn_15, .int tnv16, .ref tn_17, .ref tn_18, .ref tnt])), (tn_3, .inl (k 0, 10, .inl tng3)), (tn_4, .inl (k 0, 10, .inl tng4)), (tn_5, .inl (k 0, 10, .inl tng5)), (tn_6, .inl (k 0, 10, .inl tng6)), (tn_9, .inl (k 0, 4, .inl tng9)), (tn_10, .inl (k 0, 4, .inl tng10))]) [0, 1, 2, 3, 4, 5, 6, 7, 8, 9, 10] (by decide) rfl
        exact W.vret hx hb hr (fun tZ ht hW => ⟨⟨(o_51, o_52, o_53, o_54), rfl, hw_56, by rw [ht]; exact hP9, va_K.moved hW.alike hK, hD9⟩, hS.F ht⟩) hS.2.2 dX3_weighLanes_168
  · skip
    have zh_11 : 1000 ≤ x_10.toInt := z_nlt h_11
    have hP9 := hP.sub (ws' := [(ob, .inr (3, [.ref oba, .ref ob_1])), (oba, .inr (1, [.ref oba_0, .int o_5, .int o_6])), (oba_0, .inl (k 0, 8, .inl o_7)), (ob_1, .inl (k 2, 1000, .inr (.inl obg1))), (tn, .inr (10, [.int tnv0, .int tnv1, .int tnv2, .ref tn_3, .ref tn_4, .ref tn_5, .ref tn_6, .int tnv7, .int tnv8, .ref tn_9, .ref tn_10, .int tnv11, .ref tn_12, .ref tn_13, .ref tn_14, .ref tn_15, .int tnv16, .ref tn_17, .ref tn_18, .ref tnt])), (tn_3, .inl (k 0, 10, .inl tng3)), (tn_4, .inl (k 0, 10, .inl tng4)), (tn_5, .inl (k 0, 10, .inl tng5)), (tn_6, .inl (k 0, 10, .inl tng6)), (tn_9, .inl (k 0, 4, .inl tng9)), (tn_10, .inl (k 0, 4, .inl tng10))]) [0, 3, 4, 1, 5, 6, 7, 8, 2, 9, 10] rfl
    have hD9 := hD.sub (ws' := [(ob, .inr (3, [.ref oba, .ref ob_1])), (oba, .inr (1, [.ref oba_0, .int o_5, .int o_6])), (oba_0, .inl (k 0, 8, .inl o_7)), (ob_1, .inl (k 2, 1000, .inr (.inl obg1))), (tn, .inr (10, [.int tnv0, .int tnv1, .int tnv2, .ref tn_3, .ref tn_4, .ref tn_5, .ref tn_6, .int tnv7, .int tnv8, .ref tn_9, .ref tn_10, .int tnv11, .ref tn_12, .ref tn_13, .ref tn_14, .ref tn_15, .int tnv16, .ref tn_17, .ref tn_18, .ref tnt])), (tn_3, .inl (k 0, 10, .inl tng3)), (tn_4, .inl (k 0, 10, .inl tng4)), (tn_5, .inl (k 0, 10, .inl tng5)), (tn_6, .inl (k 0, 10, .inl tng6)), (tn_9, .inl (k 0, 4, .inl tng9)), (tn_10, .inl (k 0, 4, .inl tng10))]) [0, 3, 4, 1, 5, 6, 7, 8, 2, 9, 10] (by decide) rfl
    exact W.vret hx hb hr (fun tZ ht hW => ⟨⟨(o_5, o_6, o_7, obg1), rfl, hw_9, by rw [ht]; exact hP9, va_K.moved hW.alike hK, hD9⟩, hS.F ht⟩) hS.2.2 dX3_weighLanes_33
set_option maxHeartbeats 4000000 in
set_option maxRecDepth 100000 in
theorem c_X3_weighLanes_8 (l : Launch) (D : va_G) (k : Nat → ClassId) (ob : Nat) (tn : Nat) (p1 : Int32) (p2 : Int32) (p3 : Int32) (p4 : Int64) (oba : Nat) (ob_1 : Nat) (oba_0 : Nat) (obav1 : Int32) (obav2 : Int32) (obag0 : Nat → Int32) (obg1 : Nat → Int64) (tnv0 : Int32) (tnv1 : Int32) (tnv2 : Int32) (tn_3 : Nat) (tn_4 : Nat) (tn_5 : Nat) (tn_6 : Nat) (tnv7 : Int32) (tnv8 : Int32) (tn_9 : Nat) (tn_10 : Nat) (tnv11 : Int32) (tn_12 : Nat) (tn_13 : Nat) (tn_14 : Nat) (tn_15 : Nat) (tnv16 : Int32) (tn_17 : Nat) (tn_18 : Nat) (tnt : Nat) (tng3 : Nat → Int32) (tng4 : Nat → Int32) (tng5 : Nat → Int32) (tng6 : Nat → Int32) (tng9 : Nat → Int32) (tng10 : Nat → Int32) (sz : Nat) (h_p1 : 0 ≤ p1.toInt ∧ p1.toInt ≤ 7) (hp_obag0_0 : PR 8 1 0 0 1000000 obag0) (h_tnv0 : 0 ≤ tnv0.toInt ∧ tnv0.toInt ≤ 8) (h_tnv2 : 0 ≤ tnv2.toInt ∧ tnv2.toInt ≤ 10) (h_tnv8 : 0 ≤ tnv8.toInt ∧ tnv8.toInt ≤ 4) (h_tnv11 : 0 ≤ tnv11.toInt ∧ tnv11.toInt ≤ 6) (h_tnv16 : 0 ≤ tnv16.toInt ∧ tnv16.toInt ≤ 2) (hp_tng3_0 : PR 10 1 0 0 7 tng3) (hp_tng4_0 : PR 10 1 0 0 7 tng4) (hp_tng5_0 : PR 10 1 0 0 60 tng5) (hp_tng6_0 : PR 10 1 0 0 10 tng6) (hp_tng9_0 : PR 4 1 0 0 7 tng9) (hp_tng10_0 : PR 4 1 0 0 99 tng10) : Met l yX3_weighLanes (ww yX3_weighLanes cX3_weighLanes 14 none) ({ frames := 12, cells := 0, slots := 0, locals := 364 }) (Pre0 D k [(ob, .inr (3, [.ref oba, .ref ob_1])), (oba, .inr (1, [.ref oba_0, .int obav1, .int obav2])), (oba_0, .inl (k 0, 8, .inl obag0)), (ob_1, .inl (k 2, 1000, .inr (.inl obg1))), (tn, .inr (10, [.int tnv0, .int tnv1, .int tnv2, .ref tn_3, .ref tn_4, .ref tn_5, .ref tn_6, .int tnv7, .int tnv8, .ref tn_9, .ref tn_10, .int tnv11, .ref tn_12, .ref tn_13, .ref tn_14, .ref tn_15, .int tnv16, .ref tn_17, .ref tn_18, .ref tnt])), (tn_3, .inl (k 0, 10, .inl tng3)), (tn_4, .inl (k 0, 10, .inl tng4)), (tn_5, .inl (k 0, 10, .inl tng5)), (tn_6, .inl (k 0, 10, .inl tng6)), (tn_9, .inl (k 0, 4, .inl tng9)), (tn_10, .inl (k 0, 4, .inl tng10))] sz [.ref ob, .ref tn, .int p1, .int p2, .int p3, .long p4, .int 2]) (va_Qv (fun (u : Int32 × Int32 × (Nat → Int32) × (Nat → Int64)) => match u with | (obav1z, obav2z, obag0z, obg1z) => (PR 8 1 0 0 1000000 obag0z)) (fun (u : Int32 × Int32 × (Nat → Int32) × (Nat → Int64)) tZ => match u with | (obav1z, obav2z, obag0z, obg1z) => Bw D k (va_A [(ob, .inr (3, [.ref oba, .ref ob_1])), (oba, .inr (1, [.ref oba_0, .int obav1, .int obav2])), (oba_0, .inl (k 0, 8, .inl obag0)), (ob_1, .inl (k 2, 1000, .inr (.inl obg1))), (tn, .inr (10, [.int tnv0, .int tnv1, .int tnv2, .ref tn_3, .ref tn_4, .ref tn_5, .ref tn_6, .int tnv7, .int tnv8, .ref tn_9, .ref tn_10, .int tnv11, .ref tn_12, .ref tn_13, .ref tn_14, .ref tn_15, .int tnv16, .ref tn_17, .ref tn_18, .ref tnt])), (tn_3, .inl (k 0, 10, .inl tng3)), (tn_4, .inl (k 0, 10, .inl tng4)), (tn_5, .inl (k 0, 10, .inl tng5)), (tn_6, .inl (k 0, 10, .inl tng6)), (tn_9, .inl (k 0, 4, .inl tng9)), (tn_10, .inl (k 0, 4, .inl tng10))] sz) [(ob, .inr (3, [.ref oba, .ref ob_1])), (oba, .inr (1, [.ref oba_0, .int obav1z, .int obav2z])), (oba_0, .inl (k 0, 8, .inl obag0z)), (ob_1, .inl (k 2, 1000, .inr (.inl obg1z))), (tn, .inr (10, [.int tnv0, .int tnv1, .int tnv2, .ref tn_3, .ref tn_4, .ref tn_5, .ref tn_6, .int tnv7, .int tnv8, .ref tn_9, .ref tn_10, .int tnv11, .ref tn_12, .ref tn_13, .ref tn_14, .ref tn_15, .int tnv16, .ref tn_17, .ref tn_18, .ref tnt])), (tn_3, .inl (k 0, 10, .inl tng3)), (tn_4, .inl (k 0, 10, .inl tng4)), (tn_5, .inl (k 0, 10, .inl tng5)), (tn_6, .inl (k 0, 10, .inl tng6)), (tn_9, .inl (k 0, 4, .inl tng9)), (tn_10, .inl (k 0, 4, .inl tng10))] tZ) (va_A [(ob, .inr (3, [.ref oba, .ref ob_1])), (oba, .inr (1, [.ref oba_0, .int obav1, .int obav2])), (oba_0, .inl (k 0, 8, .inl obag0)), (ob_1, .inl (k 2, 1000, .inr (.inl obg1))), (tn, .inr (10, [.int tnv0, .int tnv1, .int tnv2, .ref tn_3, .ref tn_4, .ref tn_5, .ref tn_6, .int tnv7, .int tnv8, .ref tn_9, .ref tn_10, .int tnv11, .ref tn_12, .ref tn_13, .ref tn_14, .ref tn_15, .int tnv16, .ref tn_17, .ref tn_18, .ref tnt])), (tn_3, .inl (k 0, 10, .inl tng3)), (tn_4, .inl (k 0, 10, .inl tng4)), (tn_5, .inl (k 0, 10, .inl tng5)), (tn_6, .inl (k 0, 10, .inl tng6)), (tn_9, .inl (k 0, 4, .inl tng9)), (tn_10, .inl (k 0, 4, .inl tng10))] sz)) 0 0 (va_A [(ob, .inr (3, [.ref oba, .ref ob_1])), (oba, .inr (1, [.ref oba_0, .int obav1, .int obav2])), (oba_0, .inl (k 0, 8, .inl obag0)), (ob_1, .inl (k 2, 1000, .inr (.inl obg1))), (tn, .inr (10, [.int tnv0, .int tnv1, .int tnv2, .ref tn_3, .ref tn_4, .ref tn_5, .ref tn_6, .int tnv7, .int tnv8, .ref tn_9, .ref tn_10, .int tnv11, .ref tn_12, .ref tn_13, .ref tn_14, .ref tn_15, .int tnv16, .ref tn_17, .ref tn_18, .ref tnt])), (tn_3, .inl (k 0, 10, .inl tng3)), (tn_4, .inl (k 0, 10, .inl tng4)), (tn_5, .inl (k 0, 10, .inl tng5)), (tn_6, .inl (k 0, 10, .inl tng6)), (tn_9, .inl (k 0, 4, .inl tng9)), (tn_10, .inl (k 0, 4, .inl tng10))] sz) := by
  refine Met.ofW (cc := cX3_weighLanes) (maxL := 14) (ret := none) (by decide +kernel) rfl ?_
  intro p e s m args below meth c s₁ B hml hv
  obtain ⟨rfl, hsz, hP, hK, hD0, hN⟩ := hv
  have hx := B.exec
  have hb := B.bytes
  have hr := B.returns
  have hts : ∀ w ∈ TT, w.before _ s = true := fun w h => atoms_spec (ws := ww yX3_weighLanes cX3_weighLanes 14 none) B.pre w (List.mem_cons_of_mem _ h)
  have hown : s.vm.findClass RX3 = some m.cls := findClass_of_methodNamed B.named
  have hlocks := B.notSynchronized
  subst hsz
  have hD := hD0.self (sz := s.heap.size)
  generalize hAe : va_A [(ob, .inr (3, [.ref oba, .ref ob_1])), (oba, .inr (1, [.ref oba_0, .int obav1, .int obav2])), (oba_0, .inl (k 0, 8, .inl obag0)), (ob_1, .inl (k 2, 1000, .inr (.inl obg1))), (tn, .inr (10, [.int tnv0, .int tnv1, .int tnv2, .ref tn_3, .ref tn_4, .ref tn_5, .ref tn_6, .int tnv7, .int tnv8, .ref tn_9, .ref tn_10, .int tnv11, .ref tn_12, .ref tn_13, .ref tn_14, .ref tn_15, .int tnv16, .ref tn_17, .ref tn_18, .ref tnt])), (tn_3, .inl (k 0, 10, .inl tng3)), (tn_4, .inl (k 0, 10, .inl tng4)), (tn_5, .inl (k 0, 10, .inl tng5)), (tn_6, .inl (k 0, 10, .inl tng6)), (tn_9, .inl (k 0, 4, .inl tng9)), (tn_10, .inl (k 0, 4, .inl tng10))] s.heap.size = A at hD ⊢
  have hA : ∀ q : Nat, s.heap.size ≤ q → A q := fun q h => by rw [← hAe]; exact Or.inr h
  have hS : va_S A s.heap s.heap [] := va_S.rf
  have hl := lv_entry ([.ref ob, .ref tn, .int p1, .int p2, .int p3, .long p4, .int 2]) (n := 14) (Nat.le_of_ble_eq_true rfl)
  rw [lg_entry_eq]
  generalize (lg_sl ([.ref ob, .ref tn, .int p1, .int p2, .int p3, .long p4, .int 2]) ++ List.replicate (14 - (lg_sl ([.ref ob, .ref tn, .int p1, .int p2, .int p3, .long p4, .int 2])).length) Slot.unset).toArray = ls at hl ⊢
  have hl : lv_has ls 14 [(0, .ref ob), (1, .ref tn), (2, .int p1), (3, .int p2), (4, .int p3), (5, .long p4), (7, .int 2)] := hl
  refine lv_aload_n hx hb dX3_weighLanes_0 rfl (lv_at hl 0 rfl) ?_
  refine va_get (D := D) (ci := 3) (v := .ref oba) (C := RX3) (T := TX3) (N := 2) hx hb hts iT_X3 hown hK hP 0 rfl rfl 0 (by decide) (hts _ tw_2_163) (fun _ h9 => h9) rfl dX3_weighLanes_1 ?_
  refine lv_aload_n hx hb dX3_weighLanes_4 rfl (lv_at hl 1 rfl) ?_
  refine lv_aload_n hx hb dX3_weighLanes_5 rfl (lv_at hl 1 rfl) ?_
  have hPc := hP.sub (ws' := [(tn, .inr (10, [.int tnv0, .int tnv1, .int tnv2, .ref tn_3, .ref tn_4, .ref tn_5, .ref tn_6, .int tnv7, .int tnv8, .ref tn_9, .ref tn_10, .int tnv11, .ref tn_12, .ref tn_13, .ref tn_14, .ref tn_15, .int tnv16, .ref tn_17, .ref tn_18, .ref tnt]))]) [4] rfl
  have hDc := hD.sub (ws' := [(tn, .inr (10, [.int tnv0, .int tnv1, .int tnv2, .ref tn_3, .ref tn_4, .ref tn_5, .ref tn_6, .int tnv7, .int tnv8, .ref tn_9, .ref tn_10, .int tnv11, .ref tn_12, .ref tn_13, .ref tn_14, .ref tn_15, .int tnv16, .ref tn_17, .ref tn_18, .ref tnt]))]) [4] (by decide) rfl
  have hFc := va_free (wc := [(tn, .inr (10, [.int tnv0, .int tnv1, .int tnv2, .ref tn_3, .ref tn_4, .ref tn_5, .ref tn_6, .int tnv7, .int tnv8, .ref tn_9, .ref tn_10, .int tnv11, .ref tn_12, .ref tn_13, .ref tn_14, .ref tn_15, .int tnv16, .ref tn_17, .ref tn_18, .ref tnt]))]) hD hS hA [4] rfl
  refine va_calli (va_runV (C := RX10) (As := []) (rest := [.ref tn, .ref oba]) ⟨hx, hb, hml, hown, hts⟩ (c_X10_openLanes l D k tn tnv0 tnv1 tnv2 tn_3 tn_4 tn_5 tn_6 tnv7 tnv8 tn_9 tn_10 tnv11 tn_12 tn_13 tn_14 tn_15 tnv16 tn_17 tn_18 tnt s.heap.size (show 0 ≤ tnv0.toInt ∧ tnv0.toInt ≤ 8 from by omega) (show 0 ≤ tnv2.toInt ∧ tnv2.toInt ≤ 10 from by omega) (show 0 ≤ tnv8.toInt ∧ tnv8.toInt ≤ 4 from by omega) (show 0 ≤ tnv11.toInt ∧ tnv11.toInt ≤ 6 from by omega) (show 0 ≤ tnv16.toInt ∧ tnv16.toInt ≤ 2 from by omega)) (cwV 0 hts (gV tw_5_155 tw_3_180 tw_3_181 tw_1_3 tw_3_182) rfl rfl rfl hdV_X10_openLanes ⟨Nat.le_of_ble_eq_true rfl, Nat.le_of_ble_eq_true rfl⟩) (cz_V hK hPc hDc hN (ci := 10) (q0 := 0) rfl rfl []) rfl rfl hl.1 rfl (lv_room (Nat.le_of_ble_eq_true rfl)) dX3_weighLanes_6 ⟨Nat.le_of_ble_eq_true rfl, Nat.le_of_ble_eq_true rfl⟩) hS (fun q _ h => hFc q h) hFc (fun r_1 uZ tZ H1 locs ht hvm hw hB hz1 hk1 hS => ?_)
  obtain ⟨hP1, hK1, hD1⟩ := hB
  rw [ht] at hP1
  obtain ⟨hP, hD⟩ := va_join (wr := [(ob, .inr (3, [.ref oba, .ref ob_1])), (oba, .inr (1, [.ref oba_0, .int obav1, .int obav2])), (oba_0, .inl (k 0, 8, .inl obag0)), (ob_1, .inl (k 2, 1000, .inr (.inl obg1))), (tn_3, .inl (k 0, 10, .inl tng3)), (tn_4, .inl (k 0, 10, .inl tng4)), (tn_5, .inl (k 0, 10, .inl tng5)), (tn_6, .inl (k 0, 10, .inl tng6)), (tn_9, .inl (k 0, 4, .inl tng9)), (tn_10, .inl (k 0, 4, .inl tng10))]) (w1 := [(tn, .inr (10, [.int tnv0, .int tnv1, .int tnv2, .ref tn_3, .ref tn_4, .ref tn_5, .ref tn_6, .int tnv7, .int tnv8, .ref tn_9, .ref tn_10, .int tnv11, .ref tn_12, .ref tn_13, .ref tn_14, .ref tn_15, .int tnv16, .ref tn_17, .ref tn_18, .ref tnt]))]) hP hD [4] [0, 1, 2, 3, 5, 6, 7, 8, 9, 10] rfl rfl (by decide) (by decide) hk1 hFc hP1 hD1
  clear hK1 hP1 hD1 hPc hDc hFc
  clear hk1 hz1 ht hvm
  have hP : va_P D vwCl [(ob, .inr (3, [.ref oba, .ref ob_1])), (oba, .inr (1, [.ref oba_0, .int obav1, .int obav2])), (oba_0, .inl (k 0, 8, .inl obag0)), (ob_1, .inl (k 2, 1000, .inr (.inl obg1))), (tn_3, .inl (k 0, 10, .inl tng3)), (tn_4, .inl (k 0, 10, .inl tng4)), (tn_5, .inl (k 0, 10, .inl tng5)), (tn_6, .inl (k 0, 10, .inl tng6)), (tn_9, .inl (k 0, 4, .inl tng9)), (tn_10, .inl (k 0, 4, .inl tng10)), (tn, .inr (10, [.int tnv0, .int tnv1, .int tnv2, .ref tn_3, .ref tn_4, .ref tn_5, .ref tn_6, .int tnv7, .int tnv8, .ref tn_9, .ref tn_10, .int tnv11, .ref tn_12, .ref tn_13, .ref tn_14, .ref tn_15, .int tnv16, .ref tn_17, .ref tn_18, .ref tnt]))] H1 := hP
  have hD : va_D A [(ob, .inr (3, [.ref oba, .ref ob_1])), (oba, .inr (1, [.ref oba_0, .int obav1, .int obav2])), (oba_0, .inl (k 0, 8, .inl obag0)), (ob_1, .inl (k 2, 1000, .inr (.inl obg1))), (tn_3, .inl (k 0, 10, .inl tng3)), (tn_4, .inl (k 0, 10, .inl tng4)), (tn_5, .inl (k 0, 10, .inl tng5)), (tn_6, .inl (k 0, 10, .inl tng6)), (tn_9, .inl (k 0, 4, .inl tng9)), (tn_10, .inl (k 0, 4, .inl tng10)), (tn, .inr (10, [.int tnv0, .int tnv1, .int tnv2, .ref tn_3, .ref tn_4, .ref tn_5, .ref tn_6, .int tnv7, .int tnv8, .ref tn_9, .ref tn_10, .int tnv11, .ref tn_12, .ref tn_13, .ref tn_14, .ref tn_15, .int tnv16, .ref tn_17, .ref tn_18, .ref tnt]))] := hD
  generalize H1 = H at hP hS ⊢
  have hw_2 : (0 ≤ r_1.toInt ∧ r_1.toInt ≤ 1023) := hw
  have hw_3 := hw_2
  clear hw
  refine lv_iload hx hb dX3_weighLanes_9 (lv_at hl 4 rfl) ?_
  have hPc := hP.sub (ws' := [(oba, .inr (1, [.ref oba_0, .int obav1, .int obav2])), (oba_0, .inl (k 0, 8, .inl obag0)), (tn, .inr (10, [.int tnv0, .int tnv1, .int tnv2, .ref tn_3, .ref tn_4, .ref tn_5, .ref tn_6, .int tnv7, .int tnv8, .ref tn_9, .ref tn_10, .int tnv11, .ref tn_12, .ref tn_13, .ref tn_14, .ref tn_15, .int tnv16, .ref tn_17, .ref tn_18, .ref tnt])), (tn_3, .inl (k 0, 10, .inl tng3)), (tn_4, .inl (k 0, 10, .inl tng4)), (tn_5, .inl (k 0, 10, .inl tng5)), (tn_9, .inl (k 0, 4, .inl tng9)), (tn_10, .inl (k 0, 4, .inl tng10))]) [1, 2, 10, 4, 5, 6, 8, 9] rfl
  have hDc := hD.sub (ws' := [(oba, .inr (1, [.ref oba_0, .int obav1, .int obav2])), (oba_0, .inl (k 0, 8, .inl obag0)), (tn, .inr (10, [.int tnv0, .int tnv1, .int tnv2, .ref tn_3, .ref tn_4, .ref tn_5, .ref tn_6, .int tnv7, .int tnv8, .ref tn_9, .ref tn_10, .int tnv11, .ref tn_12, .ref tn_13, .ref tn_14, .ref tn_15, .int tnv16, .ref tn_17, .ref tn_18, .ref tnt])), (tn_3, .inl (k 0, 10, .inl tng3)), (tn_4, .inl (k 0, 10, .inl tng4)), (tn_5, .inl (k 0, 10, .inl tng5)), (tn_9, .inl (k 0, 4, .inl tng9)), (tn_10, .inl (k 0, 4, .inl tng10))]) [1, 2, 10, 4, 5, 6, 8, 9] (by decide) rfl
  have hFc := va_free (wc := [(oba, .inr (1, [.ref oba_0, .int obav1, .int obav2])), (oba_0, .inl (k 0, 8, .inl obag0)), (tn, .inr (10, [.int tnv0, .int tnv1, .int tnv2, .ref tn_3, .ref tn_4, .ref tn_5, .ref tn_6, .int tnv7, .int tnv8, .ref tn_9, .ref tn_10, .int tnv11, .ref tn_12, .ref tn_13, .ref tn_14, .ref tn_15, .int tnv16, .ref tn_17, .ref tn_18, .ref tnt])), (tn_3, .inl (k 0, 10, .inl tng3)), (tn_4, .inl (k 0, 10, .inl tng4)), (tn_5, .inl (k 0, 10, .inl tng5)), (tn_9, .inl (k 0, 4, .inl tng9)), (tn_10, .inl (k 0, 4, .inl tng10))]) hD hS hA [1, 2, 10, 4, 5, 6, 8, 9] rfl
  refine va_callv (va_runV (C := RX1) (As := [.ref tn, .int r_1, .int p3]) (rest := []) ⟨hx, hb, hml, hown, hts⟩ (c_X1_fall l D k oba tn r_1 p3 oba_0 obav1 obav2 obag0 tnv0 tnv1 tnv2 tn_3 tn_4 tn_5 tn_6 tnv7 tnv8 tn_9 tn_10 tnv11 tn_12 tn_13 tn_14 tn_15 tnv16 tn_17 tn_18 tnt tng3 tng4 tng5 tng9 tng10 H.size hp_obag0_0 (show 0 ≤ tnv0.toInt ∧ tnv0.toInt ≤ 8 from by omega) (show 0 ≤ tnv2.toInt ∧ tnv2.toInt ≤ 10 from by omega) (show 0 ≤ tnv8.toInt ∧ tnv8.toInt ≤ 4 from by omega) (show 0 ≤ tnv11.toInt ∧ tnv11.toInt ≤ 6 from by omega) (show 0 ≤ tnv16.toInt ∧ tnv16.toInt ≤ 2 from by omega) hp_tng3_0 hp_tng4_0 hp_tng5_0 hp_tng9_0 hp_tng10_0) (cwV 3 hts (gV tw_5_156 tw_3_184 tw_3_185 tw_1_6 tw_3_186) rfl rfl rfl hdV_X1_fall ⟨Nat.le_of_ble_eq_true rfl, Nat.le_of_ble_eq_true rfl⟩) (cz_V hK hPc hDc hN (ci := 1) (q0 := 0) rfl rfl [.ref tn, .int r_1, .int p3]) rfl rfl hl.1 rfl (lv_room (Nat.le_of_ble_eq_true rfl)) dX3_weighLanes_11 ⟨Nat.le_of_ble_eq_true rfl, Nat.le_of_ble_eq_true rfl⟩) hS (fun q _ h => hFc q h) hFc (fun uZ tZ H1 locs ht hvm hw hB hz1 hk1 hS => ?_)
  obtain ⟨o_5, o_6, o_7⟩ := uZ
  obtain ⟨hP1, hK1, hD1⟩ := hB
  rw [ht] at hP1
  obtain ⟨hP, hD⟩ := va_join (wr := [(ob, .inr (3, [.ref oba, .ref ob_1])), (ob_1, .inl (k 2, 1000, .inr (.inl obg1))), (tn_6, .inl (k 0, 10, .inl tng6))]) (w1 := [(oba, .inr (1, [.ref oba_0, .int o_5, .int o_6])), (oba_0, .inl (k 0, 8, .inl o_7)), (tn, .inr (10, [.int tnv0, .int tnv1, .int tnv2, .ref tn_3, .ref tn_4, .ref tn_5, .ref tn_6, .int tnv7, .int tnv8, .ref tn_9, .ref tn_10, .int tnv11, .ref tn_12, .ref tn_13, .ref tn_14, .ref tn_15, .int tnv16, .ref tn_17, .ref tn_18, .ref tnt])), (tn_3, .inl (k 0, 10, .inl tng3)), (tn_4, .inl (k 0, 10, .inl tng4)), (tn_5, .inl (k 0, 10, .inl tng5)), (tn_9, .inl (k 0, 4, .inl tng9)), (tn_10, .inl (k 0, 4, .inl tng10))]) hP hD [1, 2, 10, 4, 5, 6, 8, 9] [0, 3, 7] rfl rfl (by decide) (by decide) hk1 hFc hP1 hD1
  clear hK1 hP1 hD1 hPc hDc hFc
  clear hk1 hz1 ht hvm
  have hP : va_P D vwCl [(ob, .inr (3, [.ref oba, .ref ob_1])), (ob_1, .inl (k 2, 1000, .inr (.inl obg1))), (tn_6, .inl (k 0, 10, .inl tng6)), (oba, .inr (1, [.ref oba_0, .int o_5, .int o_6])), (oba_0, .inl (k 0, 8, .inl o_7)), (tn, .inr (10, [.int tnv0, .int tnv1, .int tnv2, .ref tn_3, .ref tn_4, .ref tn_5, .ref tn_6, .int tnv7, .int tnv8, .ref tn_9, .ref tn_10, .int tnv11, .ref tn_12, .ref tn_13, .ref tn_14, .ref tn_15, .int tnv16, .ref tn_17, .ref tn_18, .ref tnt])), (tn_3, .inl (k 0, 10, .inl tng3)), (tn_4, .inl (k 0, 10, .inl tng4)), (tn_5, .inl (k 0, 10, .inl tng5)), (tn_9, .inl (k 0, 4, .inl tng9)), (tn_10, .inl (k 0, 4, .inl tng10))] H1 := hP
  have hD : va_D A [(ob, .inr (3, [.ref oba, .ref ob_1])), (ob_1, .inl (k 2, 1000, .inr (.inl obg1))), (tn_6, .inl (k 0, 10, .inl tng6)), (oba, .inr (1, [.ref oba_0, .int o_5, .int o_6])), (oba_0, .inl (k 0, 8, .inl o_7)), (tn, .inr (10, [.int tnv0, .int tnv1, .int tnv2, .ref tn_3, .ref tn_4, .ref tn_5, .ref tn_6, .int tnv7, .int tnv8, .ref tn_9, .ref tn_10, .int tnv11, .ref tn_12, .ref tn_13, .ref tn_14, .ref tn_15, .int tnv16, .ref tn_17, .ref tn_18, .ref tnt])), (tn_3, .inl (k 0, 10, .inl tng3)), (tn_4, .inl (k 0, 10, .inl tng4)), (tn_5, .inl (k 0, 10, .inl tng5)), (tn_9, .inl (k 0, 4, .inl tng9)), (tn_10, .inl (k 0, 4, .inl tng10))] := hD
  generalize H1 = H at hP hS ⊢
  have hw_8 : (PR 8 1 0 0 1000000 o_7) := hw
  have hw_9 := hw_8
  clear hw
  refine lv_aload_n hx hb dX3_weighLanes_14 rfl (lv_at hl 0 rfl) ?_
  refine va_get (D := D) (ci := 3) (v := .ref oba) (C := RX3) (T := TX3) (N := 2) hx hb hts iT_X3 hown hK hP 0 rfl rfl 0 (by decide) (hts _ tw_2_163) (fun _ h9 => h9) rfl dX3_weighLanes_15 ?_
  refine va_get (D := D) (ci := 1) (v := .ref oba_0) (C := RX1) (T := TX1) (N := 3) hx hb hts iT_X1 hown hK hP 3 rfl rfl 0 (by decide) (hts _ tw_2_21) (fun _ h9 => h9) rfl dX3_weighLanes_18 ?_
  refine lv_iload_n hx hb dX3_weighLanes_21 rfl (lv_at hl 2 rfl) ?_
  refine va_iald hx hb hK hP 4 0 rfl rfl (z_in (by omega) (by omega)) dX3_weighLanes_22 ?_
  refine lv_topi (fun x_10 ex_10 => ?_)
  have zx_10r0 : 0 ≤ x_10.toInt ∧ x_10.toInt ≤ 1000000 := by rw [ex_10]; exact PR.ld hw_9 (by omega) (by omega) (by omega)
  refine lv_istore (lv' := [(8, .int x_10), (0, .ref ob), (1, .ref tn), (2, .int p1), (3, .int p2), (4, .int p3), (5, .long p4), (7, .int 2)]) hx hb dX3_weighLanes_23 hl (by decide) rfl (fun ls hl => ?_)
  refine lv_iload hx hb dX3_weighLanes_25 (lv_at hl 0 rfl) ?_
  refine lv_sipush (v := 1000) hx hb dX3_weighLanes_27 (by decide) ?_
  refine lv_icmp_lt (tgt := 34) hx hb dX3_weighLanes_30 (by decide) (fun h_11 => ?_) (fun h_11 => ?_)
  · skip
    have zh_11 : x_10.toInt < 1000 := z_lt h_11
    refine lv_aload_n hx hb dX3_weighLanes_34 rfl (lv_at hl 1 rfl) ?_
    refine va_get (D := D) (ci := 3) (v := .ref oba) (C := RX3) (T := TX3) (N := 2) hx hb hts iT_X3 hown hK hP 0 rfl rfl 0 (by decide) (hts _ tw_2_163) (fun _ h9 => h9) rfl dX3_weighLanes_35 ?_
    refine lv_aload_n hx hb dX3_weighLanes_38 rfl (lv_at hl 2 rfl) ?_
    refine lv_iload_n hx hb dX3_weighLanes_39 rfl (lv_at hl 3 rfl) ?_
    have hPc := hP.sub (ws' := [(oba, .inr (1, [.ref oba_0, .int o_5, .int o_6])), (oba_0, .inl (k 0, 8, .inl o_7)), (tn, .inr (10, [.int tnv0, .int tnv1, .int tnv2, .ref tn_3, .ref tn_4, .ref tn_5, .ref tn_6, .int tnv7, .int tnv8, .ref tn_9, .ref tn_10, .int tnv11, .ref tn_12, .ref tn_13, .ref tn_14, .ref tn_15, .int tnv16, .ref tn_17, .ref tn_18, .ref tnt])), (tn_3, .inl (k 0, 10, .inl tng3)), (tn_4, .inl (k 0, 10, .inl tng4)), (tn_5, .inl (k 0, 10, .inl tng5)), (tn_9, .inl (k 0, 4, .inl tng9)), (tn_10, .inl (k 0, 4, .inl tng10))]) [3, 4, 5, 6, 7, 8, 9, 10] rfl
    have hDc := hD.sub (ws' := [(oba, .inr (1, [.ref oba_0, .int o_5, .int o_6])), (oba_0, .inl (k 0, 8, .inl o_7)), (tn, .inr (10, [.int tnv0, .int tnv1, .int tnv2, .ref tn_3, .ref tn_4, .ref tn_5, .ref tn_6, .int tnv7, .int tnv8, .ref tn_9, .ref tn_10, .int tnv11, .ref tn_12, .ref tn_13, .ref tn_14, .ref tn_15, .int tnv16, .ref tn_17, .ref tn_18, .ref tnt])), (tn_3, .inl (k 0, 10, .inl tng3)), (tn_4, .inl (k 0, 10, .inl tng4)), (tn_5, .inl (k 0, 10, .inl tng5)), (tn_9, .inl (k 0, 4, .inl tng9)), (tn_10, .inl (k 0, 4, .inl tng10))]) [3, 4, 5, 6, 7, 8, 9, 10] (by decide) rfl
    have hFc := va_free (wc := [(oba, .inr (1, [.ref oba_0, .int o_5, .int o_6])), (oba_0, .inl (k 0, 8, .inl o_7)), (tn, .inr (10, [.int tnv0, .int tnv1, .int tnv2, .ref tn_3, .ref tn_4, .ref tn_5, .ref tn_6, .int tnv7, .int tnv8, .ref tn_9, .ref tn_10, .int tnv11, .ref tn_12, .ref tn_13, .ref tn_14, .ref tn_15, .int tnv16, .ref tn_17, .ref tn_18, .ref tnt])), (tn_3, .inl (k 0, 10, .inl tng3)), (tn_4, .inl (k 0, 10, .inl tng4)), (tn_5, .inl (k 0, 10, .inl tng5)), (tn_9, .inl (k 0, 4, .inl tng9)), (tn_10, .inl (k 0, 4, .inl tng10))]) hD hS hA [3, 4, 5, 6, 7, 8, 9, 10] rfl
    refine va_calli (va_runV (C := RX1) (As := [.ref tn, .int p1]) (rest := []) ⟨hx, hb, hml, hown, hts⟩ (c_X1_wayTo l D k oba tn p1 oba_0 o_5 o_6 o_7 tnv0 tnv1 tnv2 tn_3 tn_4 tn_5 tn_6 tnv7 tnv8 tn_9 tn_10 tnv11 tn_12 tn_13 tn_14 tn_15 tnv16 tn_17 tn_18 tnt tng3 tng4 tng5 tng9 tng10 H.size (show 0 ≤ p1.toInt ∧ p1.toInt ≤ 7 from by omega) hw_9 (show 0 ≤ tnv0.toInt ∧ tnv0.toInt ≤ 8 from by omega) (show 0 ≤ tnv2.toInt ∧ tnv2.toInt ≤ 10 from by omega) (show 0 ≤ tnv8.toInt ∧ tnv8.toInt ≤ 4 from by omega) (show 0 ≤ tnv11.toInt ∧ tnv11.toInt ≤ 6 from by omega) (show 0 ≤ tnv16.toInt ∧ tnv16.toInt ≤ 2 from by omega) hp_tng3_0 hp_tng4_0 hp_tng5_0 hp_tng9_0 hp_tng10_0) (cwV 2 hts (gV tw_5_157 tw_4_96 tw_4_97 tw_1_6 tw_4_98) rfl rfl rfl hdV_X1_wayTo ⟨Nat.le_of_ble_eq_true rfl, Nat.le_of_ble_eq_true rfl⟩) (cz_V hK hPc hDc hN (ci := 1) (q0 := 0) rfl rfl [.ref tn, .int p1]) rfl rfl hl.1 rfl (lv_room (Nat.le_of_ble_eq_true rfl)) dX3_weighLanes_40 ⟨Nat.le_of_ble_eq_true rfl, Nat.le_of_ble_eq_true rfl⟩) hS (fun q _ h => hFc q h) hFc (fun r_12 uZ tZ H1 locs ht hvm hw hB hz1 hk1 hS => ?_)
    obtain ⟨hP1, hK1, hD1⟩ := hB
    rw [ht] at hP1
    obtain ⟨hP, hD⟩ := va_join (wr := [(ob, .inr (3, [.ref oba, .ref ob_1])), (ob_1, .inl (k 2, 1000, .inr (.inl obg1))), (tn_6, .inl (k 0, 10, .inl tng6))]) (w1 := [(oba, .inr (1, [.ref oba_0, .int o_5, .int o_6])), (oba_0, .inl (k 0, 8, .inl o_7)), (tn, .inr (10, [.int tnv0, .int tnv1, .int tnv2, .ref tn_3, .ref tn_4, .ref tn_5, .ref tn_6, .int tnv7, .int tnv8, .ref tn_9, .ref tn_10, .int tnv11, .ref tn_12, .ref tn_13, .ref tn_14, .ref tn_15, .int tnv16, .ref tn_17, .ref tn_18, .ref tnt])), (tn_3, .inl (k 0, 10, .inl tng3)), (tn_4, .inl (k 0, 10, .inl tng4)), (tn_5, .inl (k 0, 10, .inl tng5)), (tn_9, .inl (k 0, 4, .inl tng9)), (tn_10, .inl (k 0, 4, .inl tng10))]) hP hD [3, 4, 5, 6, 7, 8, 9, 10] [0, 1, 2] rfl rfl (by decide) (by decide) hk1 hFc hP1 hD1
    clear hK1 hP1 hD1 hPc hDc hFc
    clear hk1 hz1 ht hvm
    have hP : va_P D vwCl [(ob, .inr (3, [.ref oba, .ref ob_1])), (ob_1, .inl (k 2, 1000, .inr (.inl obg1))), (tn_6, .inl (k 0, 10, .inl tng6)), (oba, .inr (1, [.ref oba_0, .int o_5, .int o_6])), (oba_0, .inl (k 0, 8, .inl o_7)), (tn, .inr (10, [.int tnv0, .int tnv1, .int tnv2, .ref tn_3, .ref tn_4, .ref tn_5, .ref tn_6, .int tnv7, .int tnv8, .ref tn_9, .ref tn_10, .int tnv11, .ref tn_12, .ref tn_13, .ref tn_14, .ref tn_15, .int tnv16, .ref tn_17, .ref tn_18, .ref tnt])), (tn_3, .inl (k 0, 10, .inl tng3)), (tn_4, .inl (k 0, 10, .inl tng4)), (tn_5, .inl (k 0, 10, .inl tng5)), (tn_9, .inl (k 0, 4, .inl tng9)), (tn_10, .inl (k 0, 4, .inl tng10))] H1 := hP
    have hD : va_D A [(ob, .inr (3, [.ref oba, .ref ob_1])), (ob_1, .inl (k 2, 1000, .inr (.inl obg1))), (tn_6, .inl (k 0, 10, .inl tng6)), (oba, .inr (1, [.ref oba_0, .int o_5, .int o_6])), (oba_0, .inl (k 0, 8, .inl o_7)), (tn, .inr (10, [.int tnv0, .int tnv1, .int tnv2, .ref tn_3, .ref tn_4, .ref tn_5, .ref tn_6, .int tnv7, .int tnv8, .ref tn_9, .ref tn_10, .int tnv11, .ref tn_12, .ref tn_13, .ref tn_14, .ref tn_15, .int tnv16, .ref tn_17, .ref tn_18, .ref tnt])), (tn_3, .inl (k 0, 10, .inl tng3)), (tn_4, .inl (k 0, 10, .inl tng4)), (tn_5, .inl (k 0, 10, .inl tng5)), (tn_9, .inl (k 0, 4, .inl tng9)), (tn_10, .inl (k 0, 4, .inl tng10))] := hD
    generalize H1 = H at hP hS ⊢
    have hw_13 : (0 ≤ r_12.toInt ∧ r_12.toInt ≤ 1023) := hw
    have hw_14 := hw_13
    clear hw
    refine lv_iload_n hx hb dX3_weighLanes_43 rfl (lv_at hl 4 rfl) ?_
    refine lv_iconst (v := (-1)) hx hb dX3_weighLanes_44 (by decide) ?_
    refine lv_ixor hx hb dX3_weighLanes_45 ?_
    refine lv_topi (fun x_15 ex_15 => ?_)
    have zrp2 := z_rng p2
    refine lv_iand hx hb dX3_weighLanes_46 ?_
    refine lv_topi (fun x_16 ex_16 => ?_)
    have zrx_15 := z_rng x_15
    have zx_16 : 0 ≤ x_16.toInt ∧ x_16.toInt ≤ r_12.toInt := by rw [ex_16]; exact z_andL (by omega)
    refine lv_istore (lv' := [(9, .int x_16), (8, .int x_10), (0, .ref ob), (1, .ref tn), (2, .int p1), (3, .int p2), (4, .int p3), (5, .long p4), (7, .int 2)]) hx hb dX3_weighLanes_47 hl (by decide) rfl (fun ls hl => ?_)
    refine lv_iload hx hb dX3_weighLanes_49 (lv_at hl 0 rfl) ?_
    refine lv_iload hx hb dX3_weighLanes_51 (lv_at hl 0 rfl) ?_
    refine lv_ineg hx hb dX3_weighLanes_53 ?_
    refine lv_topi (fun x_17 ex_17 => ?_)
    refine lv_iand hx hb dX3_weighLanes_54 ?_
    refine lv_topi (fun x_18 ex_18 => ?_)
    have zrx_17 := z_rng x_17
    have zx_18 : 0 ≤ x_18.toInt ∧ x_18.toInt ≤ x_16.toInt := by rw [ex_18]; exact z_andL (by omega)
    refine lv_iconst (v := 1) hx hb dX3_weighLanes_55 (by decide) ?_
    refine lv_isub hx hb dX3_weighLanes_56 ?_
    refine lv_topi (fun x_19 ex_19 => ?_)
    have zx_19 : x_19.toInt = x_18.toInt - 1 := by rw [ex_19]; exact z_sub rfl rfl (by omega) (by omega)
    have hPc := hP.sub (ws' := []) [] rfl
    have hDc := hD.sub (ws' := []) [] (by decide) rfl
    have hFc := va_free (wc := []) hD hS hA [] rfl
    refine va_calli (va_runS (As := [.int x_19]) (rest := []) ⟨hx, hb, hml, hown, hts⟩ (c_J6_bitCount_0f7a4 l D k x_19 H.size) (va_cwS 1 hts (gS tw_5_158 tw_4_101 tw_1_20 tw_4_102) rfl rfl rfl hdS_J6_bitCount_0f7a4 ⟨Nat.le_of_ble_eq_true rfl, Nat.le_of_ble_eq_true rfl⟩) (cz_S hK hPc hDc hN [.int x_19]) rfl rfl hl.1 rfl (lv_room (Nat.le_of_ble_eq_true rfl)) dX3_weighLanes_57 ⟨Nat.le_of_ble_eq_true rfl, Nat.le_of_ble_eq_true rfl⟩) hS (fun q _ h => hFc q h) hFc (fun r_20 uZ tZ H1 locs ht hvm hw hB hz1 hk1 hS => ?_)
    obtain ⟨hP1, hK1, hD1⟩ := hB
    rw [ht] at hP1
    obtain ⟨hP, hD⟩ := va_join (wr := [(ob, .inr (3, [.ref oba, .ref ob_1])), (ob_1, .inl (k 2, 1000, .inr (.inl obg1))), (tn_6, .inl (k 0, 10, .inl tng6)), (oba, .inr (1, [.ref oba_0, .int o_5, .int o_6])), (oba_0, .inl (k 0, 8, .inl o_7)), (tn, .inr (10, [.int tnv0, .int tnv1, .int tnv2, .ref tn_3, .ref tn_4, .ref tn_5, .ref tn_6, .int tnv7, .int tnv8, .ref tn_9, .ref tn_10, .int tnv11, .ref tn_12, .ref tn_13, .ref tn_14, .ref tn_15, .int tnv16, .ref tn_17, .ref tn_18, .ref tnt])), (tn_3, .inl (k 0, 10, .inl tng3)), (tn_4, .inl (k 0, 10, .inl tng4)), (tn_5, .inl (k 0, 10, .inl tng5)), (tn_9, .inl (k 0, 4, .inl tng9)), (tn_10, .inl (k 0, 4, .inl tng10))]) (w1 := []) hP hD [] [0, 1, 2, 3, 4, 5, 6, 7, 8, 9, 10] rfl rfl (by decide) (by decide) hk1 hFc hP1 hD1
    clear hK1 hP1 hD1 hPc hDc hFc
    clear hk1 hz1 ht hvm
    have hP : va_P D vwCl [(ob, .inr (3, [.ref oba, .ref ob_1])), (ob_1, .inl (k 2, 1000, .inr (.inl obg1))), (tn_6, .inl (k 0, 10, .inl tng6)), (oba, .inr (1, [.ref oba_0, .int o_5, .int o_6])), (oba_0, .inl (k 0, 8, .inl o_7)), (tn, .inr (10, [.int tnv0, .int tnv1, .int tnv2, .ref tn_3, .ref tn_4, .ref tn_5, .ref tn_6, .int tnv7, .int tnv8, .ref tn_9, .ref tn_10, .int tnv11, .ref tn_12, .ref tn_13, .ref tn_14, .ref tn_15, .int tnv16, .ref tn_17, .ref tn_18, .ref tnt])), (tn_3, .inl (k 0, 10, .inl tng3)), (tn_4, .inl (k 0, 10, .inl tng4)), (tn_5, .inl (k 0, 10, .inl tng5)), (tn_9, .inl (k 0, 4, .inl tng9)), (tn_10, .inl (k 0, 4, .inl tng10))] H1 := hP
    have hD : va_D A [(ob, .inr (3, [.ref oba, .ref ob_1])), (ob_1, .inl (k 2, 1000, .inr (.inl obg1))), (tn_6, .inl (k 0, 10, .inl tng6)), (oba, .inr (1, [.ref oba_0, .int o_5, .int o_6])), (oba_0, .inl (k 0, 8, .inl o_7)), (tn, .inr (10, [.int tnv0, .int tnv1, .int tnv2, .ref tn_3, .ref tn_4, .ref tn_5, .ref tn_6, .int tnv7, .int tnv8, .ref tn_9, .ref tn_10, .int tnv11, .ref tn_12, .ref tn_13, .ref tn_14, .ref tn_15, .int tnv16, .ref tn_17, .ref tn_18, .ref tnt])), (tn_3, .inl (k 0, 10, .inl tng3)), (tn_4, .inl (k 0, 10, .inl tng4)), (tn_5, .inl (k 0, 10, .inl tng5)), (tn_9, .inl (k 0, 4, .inl tng9)), (tn_10, .inl (k 0, 4, .inl tng10))] := hD
    generalize H1 = H at hP hS ⊢
    have hw_21 : (0 ≤ r_20.toInt ∧ r_20.toInt ≤ 63) := hw
    have hw_22 := hw_21
    clear hw
    refine lv_istore (lv' := [(10, .int r_20), (9, .int x_16), (8, .int x_10), (0, .ref ob), (1, .ref tn), (2, .int p1), (3, .int p2), (4, .int p3), (5, .long p4), (7, .int 2)]) hx hb dX3_weighLanes_60 hl (by decide) rfl (fun ls hl => ?_)
    refine lv_iload hx hb dX3_weighLanes_62 (lv_at hl 1 rfl) ?_
    refine lv_if_eq (tgt := 81) hx hb dX3_weighLanes_64 (by decide) (fun h_23 => ?_) (fun h_23 => ?_)
    · skip
      have zh_23 : x_16.toInt = 0 := z_eq h_23
      refine lv_aload_n hx hb dX3_weighLanes_81 rfl (lv_at hl 3 rfl) ?_
      refine va_get (D := D) (ci := 3) (v := .ref ob_1) (C := RX3) (T := TX3) (N := 2) hx hb hts iT_X3 hown hK hP 0 rfl rfl 1 (by decide) (hts _ tw_2_164) (fun _ h9 => h9) rfl dX3_weighLanes_82 ?_
      refine lv_iload hx hb dX3_weighLanes_85 (lv_at hl 2 rfl) ?_
      refine lv_dup2_11 hx hb dX3_weighLanes_87 rfl rfl ?_
      refine va_lald hx hb hK hP 1 2 rfl rfl (z_in (by omega) (by omega)) dX3_weighLanes_88 ?_
      refine lv_topl (fun x_24 ex_24 => ?_)
      refine lv_lload hx hb dX3_weighLanes_89 (lv_at hl 8 rfl) ?_
      refine lv_ladd hx hb dX3_weighLanes_91 ?_
      refine lv_topl (fun x_25 ex_25 => ?_)
      refine va_last hx hb hK hP hD hS 1 2 rfl rfl (z_in (by omega) (by omega)) dX3_weighLanes_92 (fun H locs hP hD hS => ?_)
      obtain ⟨g_26, eg_26⟩ : ∃ z : Nat → Int64, vp_updL obg1 x_10.toNatClampNeg x_25 = z := ⟨_, rfl⟩
      have hP : va_P D vwCl [(ob, .inr (3, [.ref oba, .ref ob_1])), (ob_1, .inl (k 2, 1000, .inr (.inl (vp_updL obg1 x_10.toNatClampNeg x_25)))), (tn_6, .inl (k 0, 10, .inl tng6)), (oba, .inr (1, [.ref oba_0, .int o_5, .int o_6])), (oba_0, .inl (k 0, 8, .inl o_7)), (tn, .inr (10, [.int tnv0, .int tnv1, .int tnv2, .ref tn_3, .ref tn_4, .ref tn_5, .ref tn_6, .int tnv7, .int tnv8, .ref tn_9, .ref tn_10, .int tnv11, .ref tn_12, .ref tn_13, .ref tn_14, .ref tn_15, .int tnv16, .ref tn_17, .ref tn_18, .ref tnt])), (tn_3, .inl (k 0, 10, .inl tng3)), (tn_4, .inl (k 0, 10, .inl tng4)), (tn_5, .inl (k 0, 10, .inl tng5)), (tn_9, .inl (k 0, 4, .inl tng9)), (tn_10, .inl (k 0, 4, .inl tng10))] H := hP
      have hD : va_D A [(ob, .inr (3, [.ref oba, .ref ob_1])), (ob_1, .inl (k 2, 1000, .inr (.inl (vp_updL obg1 x_10.toNatClampNeg x_25)))), (tn_6, .inl (k 0, 10, .inl tng6)), (oba, .inr (1, [.ref oba_0, .int o_5, .int o_6])), (oba_0, .inl (k 0, 8, .inl o_7)), (tn, .inr (10, [.int tnv0, .int tnv1, .int tnv2, .ref tn_3, .ref tn_4, .ref tn_5, .ref tn_6, .int tnv7, .int tnv8, .ref tn_9, .ref tn_10, .int tnv11, .ref tn_12, .ref tn_13, .ref tn_14, .ref tn_15, .int tnv16, .ref tn_17, .ref tn_18, .ref tnt])), (tn_3, .inl (k 0, 10, .inl tng3)), (tn_4, .inl (k 0, 10, .inl tng4)), (tn_5, .inl (k 0, 10, .inl tng5)), (tn_9, .inl (k 0, 4, .inl tng9)), (tn_10, .inl (k 0, 4, .inl tng10))] := hD
      rw [eg_26] at hP hD
      have hP9 := hP.sub (ws' := [(ob, .inr (3, [.ref oba, .ref ob_1])), (oba, .inr (1, [.ref oba_0, .int o_5, .int o_6])), (oba_0, .inl (k 0, 8, .inl o_7)), (ob_1, .inl (k 2, 1000, .inr (.inl g_26))), (tn, .inr (10, [.int tnv0, .int tnv1, .int tnv2, .ref tn_3, .ref tn_4, .ref tn_5, .ref tn_6, .int tnv7, .int tnv8, .ref tn_9, .ref tn_10, .int tnv11, .ref tn_12, .ref tn_13, .ref tn_14, .ref tn_15, .int tnv16, .ref tn_17, .ref tn_18, .ref tnt])), (tn_3, .inl (k 0, 10, .inl tng3)), (tn_4, .inl (k 0, 10, .inl tng4)), (tn_5, .inl (k 0, 10, .inl tng5)), (tn_6, .inl (k 0, 10, .inl tng6)), (tn_9, .inl (k 0, 4, .inl tng9)), (tn_10, .inl (k 0, 4, .inl tng10))]) [0, 3, 4, 1, 5, 6, 7, 8, 2, 9, 10] rfl
      have hD9 := hD.sub (ws' := [(ob, .inr (3, [.ref oba, .ref ob_1])), (oba, .inr (1, [.ref oba_0, .int o_5, .int o_6])), (oba_0, .inl (k 0, 8, .inl o_7)), (ob_1, .inl (k 2, 1000, .inr (.inl g_26))), (tn, .inr (10, [.int tnv0, .int tnv1, .int tnv2, .ref tn_3, .ref tn_4, .ref tn_5, .ref tn_6, .int tnv7, .int tnv8, .ref tn_9, .ref tn_10, .int tnv11, .ref tn_12, .ref tn_13, .ref tn_14, .ref tn_15, .int tnv16, .ref tn_17, .ref tn_18, .ref tnt])), (tn_3, .inl (k 0, 10, .inl tng3)), (tn_4, .inl (k 0, 10, .inl tng4)), (tn_5, .inl (k 0, 10, .inl tng5)), (tn_6, .inl (k 0, 10, .inl tng6)), (tn_9, .inl (k 0, 4, .inl tng9)), (tn_10, .inl (k 0, 4, .inl tng10))]) [0, 3, 4, 1, 5, 6, 7, 8, 2, 9, 10] (by decide) rfl
      exact W.vret hx hb hr (fun tZ ht hW => ⟨⟨(o_5, o_6, o_7, g_26), rfl, hw_9, by rw [ht]; exact hP9, va_K.moved hW.alike hK, hD9⟩, hS.F ht⟩) hS.2.2 dX3_weighLanes_93
    · skip
      have zh_23 : ¬ x_16.toInt = 0 := z_ne h_23
      refine lv_iload hx hb dX3_weighLanes_67 (lv_at hl 0 rfl) ?_
      refine lv_bipush (v := 10) hx hb dX3_weighLanes_69 (by decide) ?_
      refine lv_icmp_ge (tgt := 81) hx hb dX3_weighLanes_71 (by decide) (fun h_27 => ?_) (fun h_27 => ?_)
      · skip
        have zh_27 : 10 ≤ r_20.toInt := z_le h_27
        refine lv_aload_n hx hb dX3_weighLanes_81 rfl (lv_at hl 3 rfl) ?_
        refine va_get (D := D) (ci := 3) (v := .ref ob_1) (C := RX3) (T := TX3) (N := 2) hx hb hts iT_X3 hown hK hP 0 rfl rfl 1 (by decide) (hts _ tw_2_164) (fun _ h9 => h9) rfl dX3_weighLanes_82 ?_
        refine lv_iload hx hb dX3_weighLanes_85 (lv_at hl 2 rfl) ?_
        refine lv_dup2_11 hx hb dX3_weighLanes_87 rfl rfl ?_
        refine va_lald hx hb hK hP 1 2 rfl rfl (z_in (by omega) (by omega)) dX3_weighLanes_88 ?_
        refine lv_topl (fun x_28 ex_28 => ?_)
        refine lv_lload hx hb dX3_weighLanes_89 (lv_at hl 8 rfl) ?_
        refine lv_ladd hx hb dX3_weighLanes_91 ?_
        refine lv_topl (fun x_29 ex_29 => ?_)
        refine va_last hx hb hK hP hD hS 1 2 rfl rfl (z_in (by omega) (by omega)) dX3_weighLanes_92 (fun H locs hP hD hS => ?_)
        obtain ⟨g_30, eg_30⟩ : ∃ z : Nat → Int64, vp_updL obg1 x_10.toNatClampNeg x_29 = z := ⟨_, rfl⟩
        have hP : va_P D vwCl [(ob, .inr (3, [.ref oba, .ref ob_1])), (ob_1, .inl (k 2, 1000, .inr (.inl (vp_updL obg1 x_10.toNatClampNeg x_29)))), (tn_6, .inl (k 0, 10, .inl tng6)), (oba, .inr (1, [.ref oba_0, .int o_5, .int o_6])), (oba_0, .inl (k 0, 8, .inl o_7)), (tn, .inr (10, [.int tnv0, .int tnv1, .int tnv2, .ref tn_3, .ref tn_4, .ref tn_5, .ref tn_6, .int tnv7, .int tnv8, .ref tn_9, .ref tn_10, .int tnv11, .ref tn_12, .ref tn_13, .ref tn_14, .ref tn_15, .int tnv16, .ref tn_17, .ref tn_18, .ref tnt])), (tn_3, .inl (k 0, 10, .inl tng3)), (tn_4, .inl (k 0, 10, .inl tng4)), (tn_5, .inl (k 0, 10, .inl tng5)), (tn_9, .inl (k 0, 4, .inl tng9)), (tn_10, .inl (k 0, 4, .inl tng10))] H := hP
        have hD : va_D A [(ob, .inr (3, [.ref oba, .ref ob_1])), (ob_1, .inl (k 2, 1000, .inr (.inl (vp_updL obg1 x_10.toNatClampNeg x_29)))), (tn_6, .inl (k 0, 10, .inl tng6)), (oba, .inr (1, [.ref oba_0, .int o_5, .int o_6])), (oba_0, .inl (k 0, 8, .inl o_7)), (tn, .inr (10, [.int tnv0, .int tnv1, .int tnv2, .ref tn_3, .ref tn_4, .ref tn_5, .ref tn_6, .int tnv7, .int tnv8, .ref tn_9, .ref tn_10, .int tnv11, .ref tn_12, .ref tn_13, .ref tn_14, .ref tn_15, .int tnv16, .ref tn_17, .ref tn_18, .ref tnt])), (tn_3, .inl (k 0, 10, .inl tng3)), (tn_4, .inl (k 0, 10, .inl tng4)), (tn_5, .inl (k 0, 10, .inl tng5)), (tn_9, .inl (k 0, 4, .inl tng9)), (tn_10, .inl (k 0, 4, .inl tng10))] := hD
        rw [eg_30] at hP hD
        have hP9 := hP.sub (ws' := [(ob, .inr (3, [.ref oba, .ref ob_1])), (oba, .inr (1, [.ref oba_0, .int o_5, .int o_6])), (oba_0, .inl (k 0, 8, .inl o_7)), (ob_1, .inl (k 2, 1000, .inr (.inl g_30))), (tn, .inr (10, [.int tnv0, .int tnv1, .int tnv2, .ref tn_3, .ref tn_4, .ref tn_5, .ref tn_6, .int tnv7, .int tnv8, .ref tn_9, .ref tn_10, .int tnv11, .ref tn_12, .ref tn_13, .ref tn_14, .ref tn_15, .int tnv16, .ref tn_17, .ref tn_18, .ref tnt])), (tn_3, .inl (k 0, 10, .inl tng3)), (tn_4, .inl (k 0, 10, .inl tng4)), (tn_5, .inl (k 0, 10, .inl tng5)), (tn_6, .inl (k 0, 10, .inl tng6)), (tn_9, .inl (k 0, 4, .inl tng9)), (tn_10, .inl (k 0, 4, .inl tng10))]) [0, 3, 4, 1, 5, 6, 7, 8, 2, 9, 10] rfl
        have hD9 := hD.sub (ws' := [(ob, .inr (3, [.ref oba, .ref ob_1])), (oba, .inr (1, [.ref oba_0, .int o_5, .int o_6])), (oba_0, .inl (k 0, 8, .inl o_7)), (ob_1, .inl (k 2, 1000, .inr (.inl g_30))), (tn, .inr (10, [.int tnv0, .int tnv1, .int tnv2, .ref tn_3, .ref tn_4, .ref tn_5, .ref tn_6, .int tnv7, .int tnv8, .ref tn_9, .ref tn_10, .int tnv11, .ref tn_12, .ref tn_13, .ref tn_14, .ref tn_15, .int tnv16, .ref tn_17, .ref tn_18, .ref tnt])), (tn_3, .inl (k 0, 10, .inl tng3)), (tn_4, .inl (k 0, 10, .inl tng4)), (tn_5, .inl (k 0, 10, .inl tng5)), (tn_6, .inl (k 0, 10, .inl tng6)), (tn_9, .inl (k 0, 4, .inl tng9)), (tn_10, .inl (k 0, 4, .inl tng10))]) [0, 3, 4, 1, 5, 6, 7, 8, 2, 9, 10] (by decide) rfl
        exact W.vret hx hb hr (fun tZ ht hW => ⟨⟨(o_5, o_6, o_7, g_30), rfl, hw_9, by rw [ht]; exact hP9, va_K.moved hW.alike hK, hD9⟩, hS.F ht⟩) hS.2.2 dX3_weighLanes_93
      · skip
        have zh_27 : r_20.toInt < 10 := z_nle h_27
        refine lv_iload hx hb dX3_weighLanes_74 (lv_at hl 9 rfl) ?_
        refine lv_bipush (v := 10) hx hb dX3_weighLanes_76 (by decide) ?_
        refine lv_icmp_lt (tgt := 94) hx hb dX3_weighLanes_78 (by decide) (fun _ => ?_) (fun c9 => absurd c9 (by decide))
        refine lv_iconst (v := 1) hx hb dX3_weighLanes_94 (by decide) ?_
        refine lv_iload hx hb dX3_weighLanes_95 (lv_at hl 0 rfl) ?_
        refine lv_ishl hx hb dX3_weighLanes_97 ?_
        refine lv_topi (fun x_31 ex_31 => ?_)
        have zx_31 : 1 ≤ x_31.toInt ∧ x_31.toInt ≤ 512 := by rw [ex_31]; exact z_shl1 9 512 rfl (by decide) (by omega) (by omega)
        refine lv_istore (lv' := [(11, .int x_31), (10, .int r_20), (9, .int x_16), (8, .int x_10), (0, .ref ob), (1, .ref tn), (2, .int p1), (3, .int p2), (4, .int p3), (5, .long p4), (7, .int 2)]) hx hb dX3_weighLanes_98 hl (by decide) rfl (fun ls hl => ?_)
        refine lv_lload hx hb dX3_weighLanes_100 (lv_at hl 9 rfl) ?_
        refine lv_ldc2 (v := 10) hx hb hown (hts _ tw_5_159) dX3_weighLanes_102 ?_
        refine lv_ldiv hx hb dX3_weighLanes_105 (by decide) ?_
        refine lv_topl (fun x_32 ex_32 => ?_)
        refine lv_lstore (lv' := [(12, .long x_32), (11, .int x_31), (10, .int r_20), (9, .int x_16), (8, .int x_10), (0, .ref ob), (1, .ref tn), (2, .int p1), (3, .int p2), (4, .int p3), (5, .long p4), (7, .int 2)]) hx hb dX3_weighLanes_106 hl (by decide) rfl (fun ls hl => ?_)
        refine lv_aload_n hx hb dX3_weighLanes_108 rfl (lv_at hl 5 rfl) ?_
        refine lv_aload_n hx hb dX3_weighLanes_109 rfl (lv_at hl 6 rfl) ?_
        refine lv_iload_n hx hb dX3_weighLanes_110 rfl (lv_at hl 7 rfl) ?_
        refine lv_iload_n hx hb dX3_weighLanes_111 rfl (lv_at hl 8 rfl) ?_
        refine lv_iload hx hb dX3_weighLanes_112 (lv_at hl 1 rfl) ?_
        refine lv_ior hx hb dX3_weighLanes_114 ?_
        refine lv_topi (fun x_33 ex_33 => ?_)
        refine lv_iload hx hb dX3_weighLanes_115 (lv_at hl 9 rfl) ?_
        refine lv_lload hx hb dX3_weighLanes_117 (lv_at hl 0 rfl) ?_
        refine lv_bipush (v := 10) hx hb dX3_weighLanes_119 (by decide) ?_
        refine lv_aload_n hx hb dX3_weighLanes_121 rfl (lv_at hl 6 rfl) ?_
        refine va_get (D := D) (ci := 10) (v := .ref tn_6) (C := RX10) (T := TX10) (N := 20) hx hb hts iT_X10 hown hK hP 5 rfl rfl 6 (by decide) (hts _ tw_1_98) (fun _ h9 => h9) rfl dX3_weighLanes_122 ?_
        refine lv_iload hx hb dX3_weighLanes_125 (lv_at hl 2 rfl) ?_
        refine va_iald hx hb hK hP 2 0 rfl rfl (z_in (by omega) (by omega)) dX3_weighLanes_127 ?_
        refine lv_topi (fun x_34 ex_34 => ?_)
        have zx_34r0 : 0 ≤ x_34.toInt ∧ x_34.toInt ≤ 10 := by rw [ex_34]; exact PR.ld hp_tng6_0 (by omega) (by omega) (by omega)
        refine lv_isub hx hb dX3_weighLanes_128 ?_
        refine lv_topi (fun x_35 ex_35 => ?_)
        have zx_35 : x_35.toInt = 10 - x_34.toInt := by rw [ex_35]; exact z_sub rfl rfl (by omega) (by omega)
        refine lv_i2l (v := x_35.toInt64) hx hb dX3_weighLanes_129 rfl ?_
        refine lv_lmul hx hb dX3_weighLanes_130 ?_
        refine lv_topl (fun x_36 ex_36 => ?_)
        refine lv_iload hx hb dX3_weighLanes_131 (lv_at hl 11 rfl) ?_
        refine lv_iconst (v := 1) hx hb dX3_weighLanes_133 (by decide) ?_
        refine lv_iadd hx hb dX3_weighLanes_134 ?_
        refine lv_topi (fun x_37 ex_37 => ?_)
        obtain rfl : x_37 = 3 := ex_37.trans (by decide)
        have hPc := hP.sub (ws' := [(ob, .inr (3, [.ref oba, .ref ob_1])), (oba, .inr (1, [.ref oba_0, .int o_5, .int o_6])), (oba_0, .inl (k 0, 8, .inl o_7)), (ob_1, .inl (k 2, 1000, .inr (.inl obg1))), (tn, .inr (10, [.int tnv0, .int tnv1, .int tnv2, .ref tn_3, .ref tn_4, .ref tn_5, .ref tn_6, .int tnv7, .int tnv8, .ref tn_9, .ref tn_10, .int tnv11, .ref tn_12, .ref tn_13, .ref tn_14, .ref tn_15, .int tnv16, .ref tn_17, .ref tn_18, .ref tnt])), (tn_3, .inl (k 0, 10, .inl tng3)), (tn_4, .inl (k 0, 10, .inl tng4)), (tn_5, .inl (k 0, 10, .inl tng5)), (tn_6, .inl (k 0, 10, .inl tng6)), (tn_9, .inl (k 0, 4, .inl tng9)), (tn_10, .inl (k 0, 4, .inl tng10))]) [0, 3, 4, 1, 5, 6, 7, 8, 2, 9, 10] rfl
        have hDc := hD.sub (ws' := [(ob, .inr (3, [.ref oba, .ref ob_1])), (oba, .inr (1, [.ref oba_0, .int o_5, .int o_6])), (oba_0, .inl (k 0, 8, .inl o_7)), (ob_1, .inl (k 2, 1000, .inr (.inl obg1))), (tn, .inr (10, [.int tnv0, .int tnv1, .int tnv2, .ref tn_3, .ref tn_4, .ref tn_5, .ref tn_6, .int tnv7, .int tnv8, .ref tn_9, .ref tn_10, .int tnv11, .ref tn_12, .ref tn_13, .ref tn_14, .ref tn_15, .int tnv16, .ref tn_17, .ref tn_18, .ref tnt])), (tn_3, .inl (k 0, 10, .inl tng3)), (tn_4, .inl (k 0, 10, .inl tng4)), (tn_5, .inl (k 0, 10, .inl tng5)), (tn_6, .inl (k 0, 10, .inl tng6)), (tn_9, .inl (k 0, 4, .inl tng9)), (tn_10, .inl (k 0, 4, .inl tng10))]) [0, 3, 4, 1, 5, 6, 7, 8, 2, 9, 10] (by decide) rfl
        have hFc := va_free (wc := [(ob, .inr (3, [.ref oba, .ref ob_1])), (oba, .inr (1, [.ref oba_0, .int o_5, .int o_6])), (oba_0, .inl (k 0, 8, .inl o_7)), (ob_1, .inl (k 2, 1000, .inr (.inl obg1))), (tn, .inr (10, [.int tnv0, .int tnv1, .int tnv2, .ref tn_3, .ref tn_4, .ref tn_5, .ref tn_6, .int tnv7, .int tnv8, .ref tn_9, .ref tn_10, .int tnv11, .ref tn_12, .ref tn_13, .ref tn_14, .ref tn_15, .int tnv16, .ref tn_17, .ref tn_18, .ref tnt])), (tn_3, .inl (k 0, 10, .inl tng3)), (tn_4, .inl (k 0, 10, .inl tng4)), (tn_5, .inl (k 0, 10, .inl tng5)), (tn_6, .inl (k 0, 10, .inl tng6)), (tn_9, .inl (k 0, 4, .inl tng9)), (tn_10, .inl (k 0, 4, .inl tng10))]) hD hS hA [0, 3, 4, 1, 5, 6, 7, 8, 2, 9, 10] rfl
        refine va_callv (va_runV (C := RX3) (As := [.ref tn, .int p1, .int x_33, .int p3, .long x_36, .int 3]) (rest := []) ⟨hx, hb, hml, hown, hts⟩ (c_X3_weighLanes_7 l D k ob tn p1 x_33 p3 x_36 oba ob_1 oba_0 o_5 o_6 o_7 obg1 tnv0 tnv1 tnv2 tn_3 tn_4 tn_5 tn_6 tnv7 tnv8 tn_9 tn_10 tnv11 tn_12 tn_13 tn_14 tn_15 tnv16 tn_17 tn_18 tnt tng3 tng4 tng5 tng6 tng9 tng10 H.size (show 0 ≤ p1.toInt ∧ p1.toInt ≤ 7 from by omega) hw_9 (show 0 ≤ tnv0.toInt ∧ tnv0.toInt ≤ 8 from by omega) (show 0 ≤ tnv2.toInt ∧ tnv2.toInt ≤ 10 from by omega) (show 0 ≤ tnv8.toInt ∧ tnv8.toInt ≤ 4 from by omega) (show 0 ≤ tnv11.toInt ∧ tnv11.toInt ≤ 6 from by omega) (show 0 ≤ tnv16.toInt ∧ tnv16.toInt ≤ 2 from by omega) hp_tng3_0 hp_tng4_0 hp_tng5_0 hp_tng6_0 hp_tng9_0 hp_tng10_0) (cwV 6 hts (gV tw_5_151 tw_5_153 tw_p_34 tw_1_12 tw_5_154) rfl rfl rfl hdV_X3_weighLanes ⟨Nat.le_of_ble_eq_true rfl, Nat.le_of_ble_eq_true rfl⟩) (cz_V hK hPc hDc hN (ci := 3) (q0 := 0) rfl rfl [.ref tn, .int p1, .int x_33, .int p3, .long x_36, .int 3]) rfl rfl hl.1 rfl (lv_room (Nat.le_of_ble_eq_true rfl)) dX3_weighLanes_135 ⟨Nat.le_of_ble_eq_true rfl, Nat.le_of_ble_eq_true rfl⟩) hS (fun q _ h => hFc q h) hFc (fun uZ tZ H1 locs ht hvm hw hB hz1 hk1 hS => ?_)
        obtain ⟨o_39, o_40, o_41, o_42⟩ := uZ
        obtain ⟨hP1, hK1, hD1⟩ := hB
        rw [ht] at hP1
        obtain ⟨hP, hD⟩ := va_join (wr := []) (w1 := [(ob, .inr (3, [.ref oba, .ref ob_1])), (oba, .inr (1, [.ref oba_0, .int o_39, .int o_40])), (oba_0, .inl (k 0, 8, .inl o_41)), (ob_1, .inl (k 2, 1000, .inr (.inl o_42))), (tn, .inr (10, [.int tnv0, .int tnv1, .int tnv2, .ref tn_3, .ref tn_4, .ref tn_5, .ref tn_6, .int tnv7, .int tnv8, .ref tn_9, .ref tn_10, .int tnv11, .ref tn_12, .ref tn_13, .ref tn_14, .ref tn_15, .int tnv16, .ref tn_17, .ref tn_18, .ref tnt])), (tn_3, .inl (k 0, 10, .inl tng3)), (tn_4, .inl (k 0, 10, .inl tng4)), (tn_5, .inl (k 0, 10, .inl tng5)), (tn_6, .inl (k 0, 10, .inl tng6)), (tn_9, .inl (k 0, 4, .inl tng9)), (tn_10, .inl (k 0, 4, .inl tng10))]) hP hD [0, 3, 4, 1, 5, 6, 7, 8, 2, 9, 10] [] rfl rfl (by decide) (by decide) hk1 hFc hP1 hD1
        clear hK1 hP1 hD1 hPc hDc hFc
        clear hk1 hz1 ht hvm
        have hP : va_P D vwCl [(ob, .inr (3, [.ref oba, .ref ob_1])), (oba, .inr (1, [.ref oba_0, .int o_39, .int o_40])), (oba_0, .inl (k 0, 8, .inl o_41)), (ob_1, .inl (k 2, 1000, .inr (.inl o_42))), (tn, .inr (10, [.int tnv0, .int tnv1, .int tnv2, .ref tn_3, .ref tn_4, .ref tn_5, .ref tn_6, .int tnv7, .int tnv8, .ref tn_9, .ref tn_10, .int tnv11, .ref tn_12, .ref tn_13, .ref tn_14, .ref tn_15, .int tnv16, .ref tn_17, .ref tn_18, .ref tnt])), (tn_3, .inl (k 0, 10, .inl tng3)), (tn_4, .inl (k 0, 10, .inl tng4)), (tn_5, .inl (k 0, 10, .inl tng5)), (tn_6, .inl (k 0, 10, .inl tng6)), (tn_9, .inl (k 0, 4, .inl tng9)), (tn_10, .inl (k 0, 4, .inl tng10))] H1 := hP
        have hD : va_D A [(ob, .inr (3, [.ref oba, .ref ob_1])), (oba, .inr (1, [.ref oba_0, .int o_39, .int o_40])), (oba_0, .inl (k 0, 8, .inl o_41)), (ob_1, .inl (k 2, 1000, .inr (.inl o_42))), (tn, .inr (10, [.int tnv0, .int tnv1, .int tnv2, .ref tn_3, .ref tn_4, .ref tn_5, .ref tn_6, .int tnv7, .int tnv8, .ref tn_9, .ref tn_10, .int tnv11, .ref tn_12, .ref tn_13, .ref tn_14, .ref tn_15, .int tnv16, .ref tn_17, .ref tn_18, .ref tnt])), (tn_3, .inl (k 0, 10, .inl tng3)), (tn_4, .inl (k 0, 10, .inl tng4)), (tn_5, .inl (k 0, 10, .inl tng5)), (tn_6, .inl (k 0, 10, .inl tng6)), (tn_9, .inl (k 0, 4, .inl tng9)), (tn_10, .inl (k 0, 4, .inl tng10))] := hD
        generalize H1 = H at hP hS ⊢
        have hw_43 : (PR 8 1 0 0 1000000 o_41) := hw
        have hw_44 := hw_43
        clear hw
        refine lv_aload_n hx hb dX3_weighLanes_138 rfl (lv_at hl 5 rfl) ?_
        refine lv_aload_n hx hb dX3_weighLanes_139 rfl (lv_at hl 6 rfl) ?_
        refine lv_iload_n hx hb dX3_weighLanes_140 rfl (lv_at hl 7 rfl) ?_
        refine lv_iload_n hx hb dX3_weighLanes_141 rfl (lv_at hl 8 rfl) ?_
        refine lv_iload hx hb dX3_weighLanes_142 (lv_at hl 1 rfl) ?_
        refine lv_ior hx hb dX3_weighLanes_144 ?_
        refine lv_topi (fun x_45 ex_45 => ?_)
        obtain rfl : x_33 = x_45 := ex_33.trans ex_45.symm
        refine lv_iload hx hb dX3_weighLanes_145 (lv_at hl 9 rfl) ?_
        refine lv_iload hx hb dX3_weighLanes_147 (lv_at hl 1 rfl) ?_
        refine lv_ior hx hb dX3_weighLanes_149 ?_
        refine lv_topi (fun x_46 ex_46 => ?_)
        have zrp3 := z_rng p3
        refine lv_lload hx hb dX3_weighLanes_150 (lv_at hl 0 rfl) ?_
        refine lv_aload_n hx hb dX3_weighLanes_152 rfl (lv_at hl 6 rfl) ?_
        refine va_get (D := D) (ci := 10) (v := .ref tn_6) (C := RX10) (T := TX10) (N := 20) hx hb hts iT_X10 hown hK hP 4 rfl rfl 6 (by decide) (hts _ tw_1_98) (fun _ h9 => h9) rfl dX3_weighLanes_153 ?_
        refine lv_iload hx hb dX3_weighLanes_156 (lv_at hl 2 rfl) ?_
        refine va_iald hx hb hK hP 8 0 rfl rfl (z_in (by omega) (by omega)) dX3_weighLanes_158 ?_
        refine lv_topi (fun x_47 ex_47 => ?_)
        obtain rfl : x_34 = x_47 := ex_34.trans ex_47.symm
        refine lv_i2l (v := x_34.toInt64) hx hb dX3_weighLanes_159 rfl ?_
        refine lv_lmul hx hb dX3_weighLanes_160 ?_
        refine lv_topl (fun x_48 ex_48 => ?_)
        refine lv_iload hx hb dX3_weighLanes_161 (lv_at hl 11 rfl) ?_
        refine lv_iconst (v := 1) hx hb dX3_weighLanes_163 (by decide) ?_
        refine lv_iadd hx hb dX3_weighLanes_164 ?_
        refine lv_topi (fun x_49 ex_49 => ?_)
        obtain rfl : x_49 = 3 := ex_49.trans (by decide)
        have hPc := hP.sub (ws' := [(ob, .inr (3, [.ref oba, .ref ob_1])), (oba, .inr (1, [.ref oba_0, .int o_39, .int o_40])), (oba_0, .inl (k 0, 8, .inl o_41)), (ob_1, .inl (k 2, 1000, .inr (.inl o_42))), (tn, .inr (10, [.int tnv0, .int tnv1, .int tnv2, .ref tn_3, .ref tn_4, .ref tn_5, .ref tn_6, .int tnv7, .int tnv8, .ref tn_9, .ref tn_10, .int tnv11, .ref tn_12, .ref tn_13, .ref tn_14, .ref tn_15, .int tnv16, .ref tn_17, .ref tn_18, .ref tnt])), (tn_3, .inl (k 0, 10, .inl tng3)), (tn_4, .inl (k 0, 10, .inl tng4)), (tn_5, .inl (k 0, 10, .inl tng5)), (tn_6, .inl (k 0, 10, .inl tng6)), (tn_9, .inl (k 0, 4, .inl tng9)), (tn_10, .inl (k 0, 4, .inl tng10))]) [0, 1, 2, 3, 4, 5, 6, 7, 8, 9, 10] rfl
        have hDc := hD.sub (ws' := [(ob, .inr (3, [.ref oba, .ref ob_1])), (oba, .inr (1, [.ref oba_0, .int o_39, .int o_40])), (oba_0, .inl (k 0, 8, .inl o_41)), (ob_1, .inl (k 2, 1000, .inr (.inl o_42))), (tn, .inr (10, [.int tnv0, .int tnv1, .int tnv2, .ref tn_3, .ref tn_4, .ref tn_5, .ref tn_6, .int tnv7, .int tnv8, .ref tn_9, .ref tn_10, .int tnv11, .ref tn_12, .ref tn_13, .ref tn_14, .ref tn_15, .int tnv16, .ref tn_17, .ref tn_18, .ref tnt])), (tn_3, .inl (k 0, 10, .inl tng3)), (tn_4, .inl (k 0, 10, .inl tng4)), (tn_5, .inl (k 0, 10, .inl tng5)), (tn_6, .inl (k 0, 10, .inl tng6)), (tn_9, .inl (k 0, 4, .inl tng9)), (tn_10, .inl (k 0, 4, .inl tng10))]) [0, 1, 2, 3, 4, 5, 6, 7, 8, 9, 10] (by decide) rfl
        have hFc := va_free (wc := [(ob, .inr (3, [.ref oba, .ref ob_1])), (oba, .inr (1, [.ref oba_0, .int o_39, .int o_40])), (oba_0, .inl (k 0, 8, .inl o_41)), (ob_1, .inl (k 2, 1000, .inr (.inl o_42))), (tn, .inr (10, [.int tnv0, .int tnv1, .int tnv2, .ref tn_3, .ref tn_4, .ref tn_5, .ref tn_6, .int tnv7, .int tnv8, .ref tn_9, .ref tn_10, .int tnv11, .ref tn_12, .ref tn_13, .ref tn_14, .ref tn_15, .int tnv16, .ref tn_17, .ref tn_18, .ref tnt])), (tn_3, .inl (k 0, 10, .inl tng3)), (tn_4, .inl (k 0, 10, .inl tng4)), (tn_5, .inl (k 0, 10, .inl tng5)), (tn_6, .inl (k 0, 10, .inl tng6)), (tn_9, .inl (k 0, 4, .inl tng9)), (tn_10, .inl (k 0, 4, .inl tng10))]) hD hS hA [0, 1, 2, 3, 4, 5, 6, 7, 8, 9, 10] rfl
        refine va_callv (va_runV (C := RX3) (As := [.ref tn, .int p1, .int x_33, .int x_46, .long x_48, .int 3]) (rest := []) ⟨hx, hb, hml, hown, hts⟩ (c_X3_weighLanes_7 l D k ob tn p1 x_33 x_46 x_48 oba ob_1 oba_0 o_39 o_40 o_41 o_42 tnv0 tnv1 tnv2 tn_3 tn_4 tn_5 tn_6 tnv7 tnv8 tn_9 tn_10 tnv11 tn_12 tn_13 tn_14 tn_15 tnv16 tn_17 tn_18 tnt tng3 tng4 tng5 tng6 tng9 tng10 H.size (show 0 ≤ p1.toInt ∧ p1.toInt ≤ 7 from by omega) hw_44 (show 0 ≤ tnv0.toInt ∧ tnv0.toInt ≤ 8 from by omega) (show 0 ≤ tnv2.toInt ∧ tnv2.toInt ≤ 10 from by omega) (show 0 ≤ tnv8.toInt ∧ tnv8.toInt ≤ 4 from by omega) (show 0 ≤ tnv11.toInt ∧ tnv11.toInt ≤ 6 from by omega) (show 0 ≤ tnv16.toInt ∧ tnv16.toInt ≤ 2 from by omega) hp_tng3_0 hp_tng4_0 hp_tng5_0 hp_tng6_0 hp_tng9_0 hp_tng10_0) (cwV 6 hts (gV tw_5_151 tw_5_153 tw_p_34 tw_1_12 tw_5_154) rfl rfl rfl hdV_X3_weighLanes ⟨Nat.le_of_ble_eq_true rfl, Nat.le_of_ble_eq_true rfl⟩) (cz_V hK hPc hDc hN (ci := 3) (q0 := 0) rfl rfl [.ref tn, .int p1, .int x_33, .int x_46, .long x_48, .int 3]) rfl rfl hl.1 rfl (lv_room (Nat.le_of_ble_eq_true rfl)) dX3_weighLanes_165 ⟨Nat.le_of_ble_eq_true rfl, Nat.le_of_ble_eq_true rfl⟩) hS (fun q _ h => hFc q h) hFc (fun uZ tZ H1 locs ht hvm hw hB hz1 hk1 hS => ?_)
        obtain ⟨o_51, o_52, o_53, o_54⟩ := uZ
        obtain ⟨hP1, hK1, hD1⟩ := hB
        rw [ht] at hP1
        obtain ⟨hP, hD⟩ := va_join (wr := []) (w1 := [(ob, .inr (3, [.ref oba, .ref ob_1])), (oba, .inr (1, [.ref oba_0, .int o_51, .int o_52])), (oba_0, .inl (k 0, 8, .inl o_53)), (ob_1, .inl (k 2, 1000, .inr (.inl o_54))), (tn, .inr (10, [.int tnv0, .int tnv1, .int tnv2, .ref tn_3, .ref tn_4, .ref tn_5, .ref tn_6, .int tnv7, .int tnv8, .ref tn_9, .ref tn_10, .int tnv11, .ref tn_12, .ref tn_13, .ref tn_14, .ref tn_15, .int tnv16, .ref tn_17, .ref tn_18, .ref tnt])), (tn_3, .inl (k 0, 10, .inl tng3)), (tn_4, .inl (k 0, 10, .inl tng4)), (tn_5, .inl (k 0, 10, .inl tng5)), (tn_6, .inl (k 0, 10, .inl tng6)), (tn_9, .inl (k 0, 4, .inl tng9)), (tn_10, .inl (k 0, 4, .inl tng10))]) hP hD [0, 1, 2, 3, 4, 5, 6, 7, 8, 9, 10] [] rfl rfl (by decide) (by decide) hk1 hFc hP1 hD1
        clear hK1 hP1 hD1 hPc hDc hFc
        clear hk1 hz1 ht hvm
        have hP : va_P D vwCl [(ob, .inr (3, [.ref oba, .ref ob_1])), (oba, .inr (1, [.ref oba_0, .int o_51, .int o_52])), (oba_0, .inl (k 0, 8, .inl o_53)), (ob_1, .inl (k 2, 1000, .inr (.inl o_54))), (tn, .inr (10, [.int tnv0, .int tnv1, .int tnv2, .ref tn_3, .ref tn_4, .ref tn_5, .ref tn_6, .int tnv7, .int tnv8, .ref tn_9, .ref tn_10, .int tnv11, .ref tn_12, .ref tn_13, .ref tn_14, .ref tn_15, .int tnv16, .ref tn_17, .ref tn_18, .ref tnt])), (tn_3, .inl (k 0, 10, .inl tng3)), (tn_4, .inl (k 0, 10, .inl tng4)), (tn_5, .inl (k 0, 10, .inl tng5)), (tn_6, .inl (k 0, 10, .inl tng6)), (tn_9, .inl (k 0, 4, .inl tng9)), (tn_10, .inl (k 0, 4, .inl tng10))] H1 := hP
        have hD : va_D A [(ob, .inr (3, [.ref oba, .ref ob_1])), (oba, .inr (1, [.ref oba_0, .int o_51, .int o_52])), (oba_0, .inl (k 0, 8, .inl o_53)), (ob_1, .inl (k 2, 1000, .inr (.inl o_54))), (tn, .inr (10, [.int tnv0, .int tnv1, .int tnv2, .ref tn_3, .ref tn_4, .ref tn_5, .ref tn_6, .int tnv7, .int tnv8, .ref tn_9, .ref tn_10, .int tnv11, .ref tn_12, .ref tn_13, .ref tn_14, .ref tn_15, .int tnv16, .ref tn_17, .ref tn_18, .ref tnt])), (tn_3, .inl (k 0, 10, .inl tng3)), (tn_4, .inl (k 0, 10, .inl tng4)), (tn_5, .inl (k 0, 10, .inl tng5)), (tn_6, .inl (k 0, 10, .inl tng6)), (tn_9, .inl (k 0, 4, .inl tng9)), (tn_10, .inl (k 0, 4, .inl tng10))] := hD
        generalize H1 = H at hP hS ⊢
        have hw_55 : (PR 8 1 0 0 1000000 o_53) := hw
        have hw_56 := hw_55
        clear hw
        have hP9 := hP.sub (ws' := [(ob, .inr (3, [.ref oba, .ref ob_1])), (oba, .inr (1, [.ref oba_0, .int o_51, .int o_52])), (oba_0, .inl (k 0, 8, .inl o_53)), (ob_1, .inl (k 2, 1000, .inr (.inl o_54))), (tn, .inr (10, [.int tnv0, .int tnv1, .int tnv2, .ref tn_3, .ref tn_4, .ref tn_5, .ref tn_6, .int tnv7, .int tnv8, .ref tn_9, .ref tn_10, .int tnv11, .ref tn_12, .ref tn_13, .ref tn_14, .ref tn_15, .int tnv16, .ref tn_17, .ref tn_18, .ref tnt])), (tn_3, .inl (k 0, 10, .inl tng3)), (tn_4, .inl (k 0, 10, .inl tng4)), (tn_5, .inl (k 0, 10, .inl tng5)), (tn_6, .inl (k 0, 10, .inl tng6)), (tn_9, .inl (k 0, 4, .inl tng9)), (tn_10, .inl (k 0, 4, .inl tng10))]) [0, 1, 2, 3, 4, 5, 6, 7, 8, 9, 10] rfl
        have hD9 := hD.sub (ws' := [(ob, .inr (3, [.ref oba, .ref ob_1])), (oba, .inr (1, [.ref oba_0, .int o_51, .int o_52])), (oba_0, .inl (k 0, 8, .inl o_53)), (ob_1, .inl (k 2, 1000, .inr (.inl o_54))), (tn, .inr (10, [.int tnv0, .int tnv1, .int tnv2, .ref tn_3, .ref tn_4, .ref tn_5, .ref tn_6, .int tnv7, .int tnv8, .ref tn_9, .ref tn_10, .int tnv11, .ref tn_12, .ref tn_13, .ref tn_14, .ref tn_15, .int tnv16, .ref tn_17, .ref tn_18, .ref tnt])), (tn_3, .inl (k 0, 10, .inl tng3)), (tn_4, .inl (k 0, 10, .inl tng4)), (tn_5, .inl (k 0, 10, .inl tng5)), (tn_6, .inl (k 0, 10, .inl tng6)), (tn_9, .inl (k 0, 4, .inl tng9)), (tn_10, .inl (k 0, 4, .inl tng10))]) [0, 1, 2, 3, 4, 5, 6, 7, 8, 9, 10] (by decide) rfl
        exact W.vret hx hb hr (fun tZ ht hW => ⟨⟨(o_51, o_52, o_53, o_54), rfl, hw_56, by rw [ht]; exact hP9, va_K.moved hW.alike hK, hD9⟩, hS.F ht⟩) hS.2.2 dX3_weighLanes_168
  · skip
    have zh_11 : 1000 ≤ x_10.toInt := z_nlt h_11
    have hP9 := hP.sub (ws' := [(ob, .inr (3, [.ref oba, .ref ob_1])), (oba, .inr (1, [.ref oba_0, .int o_5, .int o_6])), (oba_0, .inl (k 0, 8, .inl o_7)), (ob_1, .inl (k 2, 1000, .inr (.inl obg1))), (tn, .inr (10, [.int tnv0, .int tnv1, .int tnv2, .ref tn_3, .ref tn_4, .ref tn_5, .ref tn_6, .int tnv7, .int tnv8, .ref tn_9, .ref tn_10, .int tnv11, .ref tn_12, .ref tn_13, .ref tn_14, .ref tn_15, .int tnv16, .ref tn_17, .ref tn_18, .ref tnt])), (tn_3, .inl (k 0, 10, .inl tng3)), (tn_4, .inl (k 0, 10, .inl tng4)), (tn_5, .inl (k 0, 10, .inl tng5)), (tn_6, .inl (k 0, 10, .inl tng6)), (tn_9, .inl (k 0, 4, .inl tng9)), (tn_10, .inl (k 0, 4, .inl tng10))]) [0, 3, 4, 1, 5, 6, 7, 8, 2, 9, 10] rfl
    have hD9 := hD.sub (ws' := [(ob, .inr (3, [.ref oba, .ref ob_1])), (oba, .inr (1, [.ref oba_0, .int o_5, .int o_6])), (oba_0, .inl (k 0, 8, .inl o_7)), (ob_1, .inl (k 2, 1000, .inr (.inl obg1))), (tn, .inr (10, [.int tnv0, .int tnv1, .int tnv2, .ref tn_3, .ref tn_4, .ref tn_5, .ref tn_6, .int tnv7, .int tnv8, .ref tn_9, .ref tn_10, .int tnv11, .ref tn_12, .ref tn_13, .ref tn_14, .ref tn_15, .int tnv16, .ref tn_17, .ref tn_18, .ref tnt])), (tn_3, .inl (k 0, 10, .inl tng3)), (tn_4, .inl (k 0, 10, .inl tng4)), (tn_5, .inl (k 0, 10, .inl tng5)), (tn_6, .inl (k 0, 10, .inl tng6)), (tn_9, .inl (k 0, 4, .inl tng9)), (tn_10, .inl (k 0, 4, .inl tng10))]) [0, 3, 4, 1, 5, 6, 7, 8, 2, 9, 10] (by decide) rfl
    exact W.vret hx hb hr (fun tZ ht hW => ⟨⟨(o_5, o_6, o_7, obg1), rfl, hw_9, by rw [ht]; exact hP9, va_K.moved hW.alike hK, hD9⟩, hS.F ht⟩) hS.2.2 dX3_weighLanes_33
set_option maxHeartbeats 4000000 in
set_option maxRecDepth 100000 in
theorem c_X3_weighLanes_9 (l : Launch) (D : va_G) (k : Nat → ClassId) (ob : Nat) (tn : Nat) (p1 : Int32) (p2 : Int32) (p3 : Int32) (p4 : Int64) (oba : Nat) (ob_1 : Nat) (oba_0 : Nat) (obav1 : Int32) (obav2 : Int32) (obag0 : Nat → Int32) (obg1 : Nat → Int64) (tnv0 : Int32) (tnv1 : Int32) (tnv2 : Int32) (tn_3 : Nat) (tn_4 : Nat) (tn_5 : Nat) (tn_6 : Nat) (tnv7 : Int32) (tnv8 : Int32) (tn_9 : Nat) (tn_10 : Nat) (tnv11 : Int32) (tn_12 : Nat) (tn_13 : Nat) (tn_14 : Nat) (tn_15 : Nat) (tnv16 : Int32) (tn_17 : Nat) (tn_18 : Nat) (tnt : Nat) (tng3 : Nat → Int32) (tng4 : Nat → Int32) (tng5 : Nat → Int32) (tng6 : Nat → Int32) (tng9 : Nat → Int32) (tng10 : Nat → Int32) (sz : Nat) (h_p1 : 0 ≤ p1.toInt ∧ p1.toInt ≤ 7) (hp_obag0_0 : PR 8 1 0 0 1000000 obag0) (h_tnv0 : 0 ≤ tnv0.toInt ∧ tnv0.toInt ≤ 8) (h_tnv2 : 0 ≤ tnv2.toInt ∧ tnv2.toInt ≤ 10) (h_tnv8 : 0 ≤ tnv8.toInt ∧ tnv8.toInt ≤ 4) (h_tnv11 : 0 ≤ tnv11.toInt ∧ tnv11.toInt ≤ 6) (h_tnv16 : 0 ≤ tnv16.toInt ∧ tnv16.toInt ≤ 2) (hp_tng3_0 : PR 10 1 0 0 7 tng3) (hp_tng4_0 : PR 10 1 0 0 7 tng4) (hp_tng5_0 : PR 10 1 0 0 60 tng5) (hp_tng6_0 : PR 10 1 0 0 10 tng6) (hp_tng9_0 : PR 4 1 0 0 7 tng9) (hp_tng10_0 : PR 4 1 0 0 99 tng10) : Met l yX3_weighLanes (ww yX3_weighLanes cX3_weighLanes 14 none) ({ frames := 13, cells := 0, slots := 0, locals := 397 }) (Pre0 D k [(ob, .inr (3, [.ref oba, .ref ob_1])), (oba, .inr (1, [.ref oba_0, .int obav1, .int obav2])), (oba_0, .inl (k 0, 8, .inl obag0)), (ob_1, .inl (k 2, 1000, .inr (.inl obg1))), (tn, .inr (10, [.int tnv0, .int tnv1, .int tnv2, .ref tn_3, .ref tn_4, .ref tn_5, .ref tn_6, .int tnv7, .int tnv8, .ref tn_9, .ref tn_10, .int tnv11, .ref tn_12, .ref tn_13, .ref tn_14, .ref tn_15, .int tnv16, .ref tn_17, .ref tn_18, .ref tnt])), (tn_3, .inl (k 0, 10, .inl tng3)), (tn_4, .inl (k 0, 10, .inl tng4)), (tn_5, .inl (k 0, 10, .inl tng5)), (tn_6, .inl (k 0, 10, .inl tng6)), (tn_9, .inl (k 0, 4, .inl tng9)), (tn_10, .inl (k 0, 4, .inl tng10))] sz [.ref ob, .ref tn, .int p1, .int p2, .int p3, .long p4, .int 1]) (va_Qv (fun (u : Int32 × Int32 × (Nat → Int32) × (Nat → Int64)) => match u with | (obav1z, obav2z, obag0z, obg1z) => (PR 8 1 0 0 1000000 obag0z)) (fun (u : Int32 × Int32 × (Nat → Int32) × (Nat → Int64)) tZ => match u with | (obav1z, obav2z, obag0z, obg1z) => Bw D k (va_A [(ob, .inr (3, [.ref oba, .ref ob_1])), (oba, .inr (1, [.ref oba_0, .int obav1, .int obav2])), (oba_0, .inl (k 0, 8, .inl obag0)), (ob_1, .inl (k 2, 1000, .inr (.inl obg1))), (tn, .inr (10, [.int tnv0, .int tnv1, .int tnv2, .ref tn_3, .ref tn_4, .ref tn_5, .ref tn_6, .int tnv7, .int tnv8, .ref tn_9, .ref tn_10, .int tnv11, .ref tn_12, .ref tn_13, .ref tn_14, .ref tn_15, .int tnv16, .ref tn_17, .ref tn_18, .ref tnt])), (tn_3, .inl (k 0, 10, .inl tng3)), (tn_4, .inl (k 0, 10, .inl tng4)), (tn_5, .inl (k 0, 10, .inl tng5)), (tn_6, .inl (k 0, 10, .inl tng6)), (tn_9, .inl (k 0, 4, .inl tng9)), (tn_10, .inl (k 0, 4, .inl tng10))] sz) [(ob, .inr (3, [.ref oba, .ref ob_1])), (oba, .inr (1, [.ref oba_0, .int obav1z, .int obav2z])), (oba_0, .inl (k 0, 8, .inl obag0z)), (ob_1, .inl (k 2, 1000, .inr (.inl obg1z))), (tn, .inr (10, [.int tnv0, .int tnv1, .int tnv2, .ref tn_3, .ref tn_4, .ref tn_5, .ref tn_6, .int tnv7, .int tnv8, .ref tn_9, .ref tn_10, .int tnv11, .ref tn_12, .ref tn_13, .ref tn_14, .ref tn_15, .int tnv16, .ref tn_17, .ref tn_18, .ref tnt])), (tn_3, .inl (k 0, 10, .inl tng3)), (tn_4, .inl (k 0, 10, .inl tng4)), (tn_5, .inl (k 0, 10, .inl tng5)), (tn_6, .inl (k 0, 10, .inl tng6)), (tn_9, .inl (k 0, 4, .inl tng9)), (tn_10, .inl (k 0, 4, .inl tng10))] tZ) (va_A [(ob, .inr (3, [.ref oba, .ref ob_1])), (oba, .inr (1, [.ref oba_0, .int obav1, .int obav2])), (oba_0, .inl (k 0, 8, .inl obag0)), (ob_1, .inl (k 2, 1000, .inr (.inl obg1))), (tn, .inr (10, [.int tnv0, .int tnv1, .int tnv2, .ref tn_3, .ref tn_4, .ref tn_5, .ref tn_6, .int tnv7, .int tnv8, .ref tn_9, .ref tn_10, .int tnv11, .ref tn_12, .ref tn_13, .ref tn_14, .ref tn_15, .int tnv16, .ref tn_17, .ref tn_18, .ref tnt])), (tn_3, .inl (k 0, 10, .inl tng3)), (tn_4, .inl (k 0, 10, .inl tng4)), (tn_5, .inl (k 0, 10, .inl tng5)), (tn_6, .inl (k 0, 10, .inl tng6)), (tn_9, .inl (k 0, 4, .inl tng9)), (tn_10, .inl (k 0, 4, .inl tng10))] sz)) 0 0 (va_A [(ob, .inr (3, [.ref oba, .ref ob_1])), (oba, .inr (1, [.ref oba_0, .int obav1, .int obav2])), (oba_0, .inl (k 0, 8, .inl obag0)), (ob_1, .inl (k 2, 1000, .inr (.inl obg1))), (tn, .inr (10, [.int tnv0, .int tnv1, .int tnv2, .ref tn_3, .ref tn_4, .ref tn_5, .ref tn_6, .int tnv7, .int tnv8, .ref tn_9, .ref tn_10, .int tnv11, .ref tn_12, .ref tn_13, .ref tn_14, .ref tn_15, .int tnv16, .ref tn_17, .ref tn_18, .ref tnt])), (tn_3, .inl (k 0, 10, .inl tng3)), (tn_4, .inl (k 0, 10, .inl tng4)), (tn_5, .inl (k 0, 10, .inl tng5)), (tn_6, .inl (k 0, 10, .inl tng6)), (tn_9, .inl (k 0, 4, .inl tng9)), (tn_10, .inl (k 0, 4, .inl tng10))] sz) := by
  refine Met.ofW (cc := cX3_weighLanes) (maxL := 14) (ret := none) (by decide +kernel) rfl ?_
  intro p e s m args below meth c s₁ B hml hv
  obtain ⟨rfl, hsz, hP, hK, hD0, hN⟩ := hv
  have hx := B.exec
  have hb := B.bytes
  have hr := B.returns
  have hts : ∀ w ∈ TT, w.before _ s = true := fun w h => atoms_spec (ws := ww yX3_weighLanes cX3_weighLanes 14 none) B.pre w (List.mem_cons_of_mem _ h)
  have hown : s.vm.findClass RX3 = some m.cls := findClass_of_methodNamed B.named
  have hlocks := B.notSynchronized
  subst hsz
  have hD := hD0.self (sz := s.heap.size)
  generalize hAe : va_A [(ob, .inr (3, [.ref oba, .ref ob_1])), (oba, .inr (1, [.ref oba_0, .int obav1, .int obav2])), (oba_0, .inl (k 0, 8, .inl obag0)), (ob_1, .inl (k 2, 1000, .inr (.inl obg1))), (tn, .inr (10, [.int tnv0, .int tnv1, .int tnv2, .ref tn_3, .ref tn_4, .ref tn_5, .ref tn_6, .int tnv7, .int tnv8, .ref tn_9, .ref tn_10, .int tnv11, .ref tn_12, .ref tn_13, .ref tn_14, .ref tn_15, .int tnv16, .ref tn_17, .ref tn_18, .ref tnt])), (tn_3, .inl (k 0, 10, .inl tng3)), (tn_4, .inl (k 0, 10, .inl tng4)), (tn_5, .inl (k 0, 10, .inl tng5)), (tn_6, .inl (k 0, 10, .inl tng6)), (tn_9, .inl (k 0, 4, .inl tng9)), (tn_10, .inl (k 0, 4, .inl tng10))] s.heap.size = A at hD ⊢
  have hA : ∀ q : Nat, s.heap.size ≤ q → A q := fun q h => by rw [← hAe]; exact Or.inr h
  have hS : va_S A s.heap s.heap [] := va_S.rf
  have hl := lv_entry ([.ref ob, .ref tn, .int p1, .int p2, .int p3, .long p4, .int 1]) (n := 14) (Nat.le_of_ble_eq_true rfl)
  rw [lg_entry_eq]
  generalize (lg_sl ([.ref ob, .ref tn, .int p1, .int p2, .int p3, .long p4, .int 1]) ++ List.replicate (14 - (lg_sl ([.ref ob, .ref tn, .int p1, .int p2, .int p3, .long p4, .int 1])).length) Slot.unset).toArray = ls at hl ⊢
  have hl : lv_has ls 14 [(0, .ref ob), (1, .ref tn), (2, .int p1), (3, .int p2), (4, .int p3), (5, .long p4), (7, .int 1)] := hl
  refine lv_aload_n hx hb dX3_weighLanes_0 rfl (lv_at hl 0 rfl) ?_
  refine va_get (D := D) (ci := 3) (v := .ref oba) (C := RX3) (T := TX3) (N := 2) hx hb hts iT_X3 hown hK hP 0 rfl rfl 0 (by decide) (hts _ tw_2_163) (fun _ h9 => h9) rfl dX3_weighLanes_1 ?_
  refine lv_aload_n hx hb dX3_weighLanes_4 rfl (lv_at hl 1 rfl) ?_
  refine lv_aload_n hx hb dX3_weighLanes_5 rfl (lv_at hl 1 rfl) ?_
  have hPc := hP.sub (ws' := [(tn, .inr (10, [.int tnv0, .int tnv1, .int tnv2, .ref tn_3, .ref tn_4, .ref tn_5, .ref tn_6, .int tnv7, .int tnv8, .ref tn_9, .ref tn_10, .int tnv11, .ref tn_12, .ref tn_13, .ref tn_14, .ref tn_15, .int tnv16, .ref tn_17, .ref tn_18, .ref tnt]))]) [4] rfl
  have hDc := hD.sub (ws' := [(tn, .inr (10, [.int tnv0, .int tnv1, .int tnv2, .ref tn_3, .ref tn_4, .ref tn_5, .ref tn_6, .int tnv7, .int tnv8, .ref tn_9, .ref tn_10, .int tnv11, .ref tn_12, .ref tn_13, .ref tn_14, .ref tn_15, .int tnv16, .ref tn_17, .ref tn_18, .ref tnt]))]) [4] (by decide) rfl
  have hFc := va_free (wc := [(tn, .inr (10, [.int tnv0, .int tnv1, .int tnv2, .ref tn_3, .ref tn_4, .ref tn_5, .ref tn_6, .int tnv7, .int tnv8, .ref tn_9, .ref tn_10, .int tnv11, .ref tn_12, .ref tn_13, .ref tn_14, .ref tn_15, .int tnv16, .ref tn_17, .ref tn_18, .ref tnt]))]) hD hS hA [4] rfl
  refine va_calli (va_runV (C := RX10) (As := []) (rest := [.ref tn, .ref oba]) ⟨hx, hb, hml, hown, hts⟩ (c_X10_openLanes l D k tn tnv0 tnv1 tnv2 tn_3 tn_4 tn_5 tn_6 tnv7 tnv8 tn_9 tn_10 tnv11 tn_12 tn_13 tn_14 tn_15 tnv16 tn_17 tn_18 tnt s.heap.size (show 0 ≤ tnv0.toInt ∧ tnv0.toInt ≤ 8 from by omega) (show 0 ≤ tnv2.toInt ∧ tnv2.toInt ≤ 10 from by omega) (show 0 ≤ tnv8.toInt ∧ tnv8.toInt ≤ 4 from by omega) (show 0 ≤ tnv11.toInt ∧ tnv11.toInt ≤ 6 from by omega) (show 0 ≤ tnv16.toInt ∧ tnv16.toInt ≤ 2 from by omega)) (cwV 0 hts (gV tw_5_155 tw_3_180 tw_3_181 tw_1_3 tw_3_182) rfl rfl rfl hdV_X10_openLanes ⟨Nat.le_of_ble_eq_true rfl, Nat.le_of_ble_eq_true rfl⟩) (cz_V hK hPc hDc hN (ci := 10) (q0 := 0) rfl rfl []) rfl rfl hl.1 rfl (lv_room (Nat.le_of_ble_eq_true rfl)) dX3_weighLanes_6 ⟨Nat.le_of_ble_eq_true rfl, Nat.le_of_ble_eq_true rfl⟩) hS (fun q _ h => hFc q h) hFc (fun r_1 uZ tZ H1 locs ht hvm hw hB hz1 hk1 hS => ?_)
  obtain ⟨hP1, hK1, hD1⟩ := hB
  rw [ht] at hP1
  obtain ⟨hP, hD⟩ := va_join (wr := [(ob, .inr (3, [.ref oba, .ref ob_1])), (oba, .inr (1, [.ref oba_0, .int obav1, .int obav2])), (oba_0, .inl (k 0, 8, .inl obag0)), (ob_1, .inl (k 2, 1000, .inr (.inl obg1))), (tn_3, .inl (k 0, 10, .inl tng3)), (tn_4, .inl (k 0, 10, .inl tng4)), (tn_5, .inl (k 0, 10, .inl tng5)), (tn_6, .inl (k 0, 10, .inl tng6)), (tn_9, .inl (k 0, 4, .inl tng9)), (tn_10, .inl (k 0, 4, .inl tng10))]) (w1 := [(tn, .inr (10, [.int tnv0, .int tnv1, .int tnv2, .ref tn_3, .ref tn_4, .ref tn_5, .ref tn_6, .int tnv7, .int tnv8, .ref tn_9, .ref tn_10, .int tnv11, .ref tn_12, .ref tn_13, .ref tn_14, .ref tn_15, .int tnv16, .ref tn_17, .ref tn_18, .ref tnt]))]) hP hD [4] [0, 1, 2, 3, 5, 6, 7, 8, 9, 10] rfl rfl (by decide) (by decide) hk1 hFc hP1 hD1
  clear hK1 hP1 hD1 hPc hDc hFc
  clear hk1 hz1 ht hvm
  have hP : va_P D vwCl [(ob, .inr (3, [.ref oba, .ref ob_1])), (oba, .inr (1, [.ref oba_0, .int obav1, .int obav2])), (oba_0, .inl (k 0, 8, .inl obag0)), (ob_1, .inl (k 2, 1000, .inr (.inl obg1))), (tn_3, .inl (k 0, 10, .inl tng3)), (tn_4, .inl (k 0, 10, .inl tng4)), (tn_5, .inl (k 0, 10, .inl tng5)), (tn_6, .inl (k 0, 10, .inl tng6)), (tn_9, .inl (k 0, 4, .inl tng9)), (tn_10, .inl (k 0, 4, .inl tng10)), (tn, .inr (10, [.int tnv0, .int tnv1, .int tnv2, .ref tn_3, .ref tn_4, .ref tn_5, .ref tn_6, .int tnv7, .int tnv8, .ref tn_9, .ref tn_10, .int tnv11, .ref tn_12, .ref tn_13, .ref tn_14, .ref tn_15, .int tnv16, .ref tn_17, .ref tn_18, .ref tnt]))] H1 := hP
  have hD : va_D A [(ob, .inr (3, [.ref oba, .ref ob_1])), (oba, .inr (1, [.ref oba_0, .int obav1, .int obav2])), (oba_0, .inl (k 0, 8, .inl obag0)), (ob_1, .inl (k 2, 1000, .inr (.inl obg1))), (tn_3, .inl (k 0, 10, .inl tng3)), (tn_4, .inl (k 0, 10, .inl tng4)), (tn_5, .inl (k 0, 10, .inl tng5)), (tn_6, .inl (k 0, 10, .inl tng6)), (tn_9, .inl (k 0, 4, .inl tng9)), (tn_10, .inl (k 0, 4, .inl tng10)), (tn, .inr (10, [.int tnv0, .int tnv1, .int tnv2, .ref tn_3, .ref tn_4, .ref tn_5, .ref tn_6, .int tnv7, .int tnv8, .ref tn_9, .ref tn_10, .int tnv11, .ref tn_12, .ref tn_13, .ref tn_14, .ref tn_15, .int tnv16, .ref tn_17, .ref tn_18, .ref tnt]))] := hD
  generalize H1 = H at hP hS ⊢
  have hw_2 : (0 ≤ r_1.toInt ∧ r_1.toInt ≤ 1023) := hw
  have hw_3 := hw_2
  clear hw
  refine lv_iload hx hb dX3_weighLanes_9 (lv_at hl 4 rfl) ?_
  have hPc := hP.sub (ws' := [(oba, .inr (1, [.ref oba_0, .int obav1, .int obav2])), (oba_0, .inl (k 0, 8, .inl obag0)), (tn, .inr (10, [.int tnv0, .int tnv1, .int tnv2, .ref tn_3, .ref tn_4, .ref tn_5, .ref tn_6, .int tnv7, .int tnv8, .ref tn_9, .ref tn_10, .int tnv11, .ref tn_12, .ref tn_13, .ref tn_14, .ref tn_15, .int tnv16, .ref tn_17, .ref tn_18, .ref tnt])), (tn_3, .inl (k 0, 10, .inl tng3)), (tn_4, .inl (k 0, 10, .inl tng4)), (tn_5, .inl (k 0, 10, .inl tng5)), (tn_9, .inl (k 0, 4, .inl tng9)), (tn_10, .inl (k 0, 4, .inl tng10))]) [1, 2, 10, 4, 5, 6, 8, 9] rfl
  have hDc := hD.sub (ws' := [(oba, .inr (1, [.ref oba_0, .int obav1, .int obav2])), (oba_0, .inl (k 0, 8, .inl obag0)), (tn, .inr (10, [.int tnv0, .int tnv1, .int tnv2, .ref tn_3, .ref tn_4, .ref tn_5, .ref tn_6, .int tnv7, .int tnv8, .ref tn_9, .ref tn_10, .int tnv11, .ref tn_12, .ref tn_13, .ref tn_14, .ref tn_15, .int tnv16, .ref tn_17, .ref tn_18, .ref tnt])), (tn_3, .inl (k 0, 10, .inl tng3)), (tn_4, .inl (k 0, 10, .inl tng4)), (tn_5, .inl (k 0, 10, .inl tng5)), (tn_9, .inl (k 0, 4, .inl tng9)), (tn_10, .inl (k 0, 4, .inl tng10))]) [1, 2, 10, 4, 5, 6, 8, 9] (by decide) rfl
  have hFc := va_free (wc := [(oba, .inr (1, [.ref oba_0, .int obav1, .int obav2])), (oba_0, .inl (k 0, 8, .inl obag0)), (tn, .inr (10, [.int tnv0, .int tnv1, .int tnv2, .ref tn_3, .ref tn_4, .ref tn_5, .ref tn_6, .int tnv7, .int tnv8, .ref tn_9, .ref tn_10, .int tnv11, .ref tn_12, .ref tn_13, .ref tn_14, .ref tn_15, .int tnv16, .ref tn_17, .ref tn_18, .ref tnt])), (tn_3, .inl (k 0, 10, .inl tng3)), (tn_4, .inl (k 0, 10, .inl tng4)), (tn_5, .inl (k 0, 10, .inl tng5)), (tn_9, .inl (k 0, 4, .inl tng9)), (tn_10, .inl (k 0, 4, .inl tng10))]) hD hS hA [1, 2, 10, 4, 5, 6, 8, 9] rfl
  refine va_callv (va_runV (C := RX1) (As := [.ref tn, .int r_1, .int p3]) (rest := []) ⟨hx, hb, hml, hown, hts⟩ (c_X1_fall l D k oba tn r_1 p3 oba_0 obav1 obav2 obag0 tnv0 tnv1 tnv2 tn_3 tn_4 tn_5 tn_6 tnv7 tnv8 tn_9 tn_10 tnv11 tn_12 tn_13 tn_14 tn_15 tnv16 tn_17 tn_18 tnt tng3 tng4 tng5 tng9 tng10 H.size hp_obag0_0 (show 0 ≤ tnv0.toInt ∧ tnv0.toInt ≤ 8 from by omega) (show 0 ≤ tnv2.toInt ∧ tnv2.toInt ≤ 10 from by omega) (show 0 ≤ tnv8.toInt ∧ tnv8.toInt ≤ 4 from by omega) (show 0 ≤ tnv11.toInt ∧ tnv11.toInt ≤ 6 from by omega) (show 0 ≤ tnv16.toInt ∧ tnv16.toInt ≤ 2 from by omega) hp_tng3_0 hp_tng4_0 hp_tng5_0 hp_tng9_0 hp_tng10_0) (cwV 3 hts (gV tw_5_156 tw_3_184 tw_3_185 tw_1_6 tw_3_186) rfl rfl rfl hdV_X1_fall ⟨Nat.le_of_ble_eq_true rfl, Nat.le_of_ble_eq_true rfl⟩) (cz_V hK hPc hDc hN (ci := 1) (q0 := 0) rfl rfl [.ref tn, .int r_1, .int p3]) rfl rfl hl.1 rfl (lv_room (Nat.le_of_ble_eq_true rfl)) dX3_weighLanes_11 ⟨Nat.le_of_ble_eq_true rfl, Nat.le_of_ble_eq_true rfl⟩) hS (fun q _ h => hFc q h) hFc (fun uZ tZ H1 locs ht hvm hw hB hz1 hk1 hS => ?_)
  obtain ⟨o_5, o_6, o_7⟩ := uZ
  obtain ⟨hP1, hK1, hD1⟩ := hB
  rw [ht] at hP1
  obtain ⟨hP, hD⟩ := va_join (wr := [(ob, .inr (3, [.ref oba, .ref ob_1])), (ob_1, .inl (k 2, 1000, .inr (.inl obg1))), (tn_6, .inl (k 0, 10, .inl tng6))]) (w1 := [(oba, .inr (1, [.ref oba_0, .int o_5, .int o_6])), (oba_0, .inl (k 0, 8, .inl o_7)), (tn, .inr (10, [.int tnv0, .int tnv1, .int tnv2, .ref tn_3, .ref tn_4, .ref tn_5, .ref tn_6, .int tnv7, .int tnv8, .ref tn_9, .ref tn_10, .int tnv11, .ref tn_12, .ref tn_13, .ref tn_14, .ref tn_15, .int tnv16, .ref tn_17, .ref tn_18, .ref tnt])), (tn_3, .inl (k 0, 10, .inl tng3)), (tn_4, .inl (k 0, 10, .inl tng4)), (tn_5, .inl (k 0, 10, .inl tng5)), (tn_9, .inl (k 0, 4, .inl tng9)), (tn_10, .inl (k 0, 4, .inl tng10))]) hP hD [1, 2, 10, 4, 5, 6, 8, 9] [0, 3, 7] rfl rfl (by decide) (by decide) hk1 hFc hP1 hD1
  clear hK1 hP1 hD1 hPc hDc hFc
  clear hk1 hz1 ht hvm
  have hP : va_P D vwCl [(ob, .inr (3, [.ref oba, .ref ob_1])), (ob_1, .inl (k 2, 1000, .inr (.inl obg1))), (tn_6, .inl (k 0, 10, .inl tng6)), (oba, .inr (1, [.ref oba_0, .int o_5, .int o_6])), (oba_0, .inl (k 0, 8, .inl o_7)), (tn, .inr (10, [.int tnv0, .int tnv1, .int tnv2, .ref tn_3, .ref tn_4, .ref tn_5, .ref tn_6, .int tnv7, .int tnv8, .ref tn_9, .ref tn_10, .int tnv11, .ref tn_12, .ref tn_13, .ref tn_14, .ref tn_15, .int tnv16, .ref tn_17, .ref tn_18, .ref tnt])), (tn_3, .inl (k 0, 10, .inl tng3)), (tn_4, .inl (k 0, 10, .inl tng4)), (tn_5, .inl (k 0, 10, .inl tng5)), (tn_9, .inl (k 0, 4, .inl tng9)), (tn_10, .inl (k 0, 4, .inl tng10))] H1 := hP
  have hD : va_D A [(ob, .inr (3, [.ref oba, .ref ob_1])), (ob_1, .inl (k 2, 1000, .inr (.inl obg1))), (tn_6, .inl (k 0, 10, .inl tng6)), (oba, .inr (1, [.ref oba_0, .int o_5, .int o_6])), (oba_0, .inl (k 0, 8, .inl o_7)), (tn, .inr (10, [.int tnv0, .int tnv1, .int tnv2, .ref tn_3, .ref tn_4, .ref tn_5, .ref tn_6, .int tnv7, .int tnv8, .ref tn_9, .ref tn_10, .int tnv11, .ref tn_12, .ref tn_13, .ref tn_14, .ref tn_15, .int tnv16, .ref tn_17, .ref tn_18, .ref tnt])), (tn_3, .inl (k 0, 10, .inl tng3)), (tn_4, .inl (k 0, 10, .inl tng4)), (tn_5, .inl (k 0, 10, .inl tng5)), (tn_9, .inl (k 0, 4, .inl tng9)), (tn_10, .inl (k 0, 4, .inl tng10))] := hD
  generalize H1 = H at hP hS ⊢
  have hw_8 : (PR 8 1 0 0 1000000 o_7) := hw
  have hw_9 := hw_8
  clear hw
  refine lv_aload_n hx hb dX3_weighLanes_14 rfl (lv_at hl 0 rfl) ?_
  refine va_get (D := D) (ci := 3) (v := .ref oba) (C := RX3) (T := TX3) (N := 2) hx hb hts iT_X3 hown hK hP 0 rfl rfl 0 (by decide) (hts _ tw_2_163) (fun _ h9 => h9) rfl dX3_weighLanes_15 ?_
  refine va_get (D := D) (ci := 1) (v := .ref oba_0) (C := RX1) (T := TX1) (N := 3) hx hb hts iT_X1 hown hK hP 3 rfl rfl 0 (by decide) (hts _ tw_2_21) (fun _ h9 => h9) rfl dX3_weighLanes_18 ?_
  refine lv_iload_n hx hb dX3_weighLanes_21 rfl (lv_at hl 2 rfl) ?_
  refine va_iald hx hb hK hP 4 0 rfl rfl (z_in (by omega) (by omega)) dX3_weighLanes_22 ?_
  refine lv_topi (fun x_10 ex_10 => ?_)
  have zx_10r0 : 0 ≤ x_10.toInt ∧ x_10.toInt ≤ 1000000 := by rw [ex_10]; exact PR.ld hw_9 (by omega) (by omega) (by omega)
  refine lv_istore (lv' := [(8, .int x_10), (0, .ref ob), (1, .ref tn), (2, .int p1), (3, .int p2), (4, .int p3), (5, .long p4), (7, .int 1)]) hx hb dX3_weighLanes_23 hl (by decide) rfl (fun ls hl => ?_)
  refine lv_iload hx hb dX3_weighLanes_25 (lv_at hl 0 rfl) ?_
  refine lv_sipush (v := 1000) hx hb dX3_weighLanes_27 (by decide) ?_
  refine lv_icmp_lt (tgt := 34) hx hb dX3_weighLanes_30 (by decide) (fun h_11 => ?_) (fun h_11 => ?_)
  · skip
    have zh_11 : x_10.toInt < 1000 := z_lt h_11
    refine lv_aload_n hx hb dX3_weighLanes_34 rfl (lv_at hl 1 rfl) ?_
    refine va_get (D := D) (ci := 3) (v := .ref oba) (C := RX3) (T := TX3) (N := 2) hx hb hts iT_X3 hown hK hP 0 rfl rfl 0 (by decide) (hts _ tw_2_163) (fun _ h9 => h9) rfl dX3_weighLanes_35 ?_
    refine lv_aload_n hx hb dX3_weighLanes_38 rfl (lv_at hl 2 rfl) ?_
    refine lv_iload_n hx hb dX3_weighLanes_39 rfl (lv_at hl 3 rfl) ?_
    have hPc := hP.sub (ws' := [(oba, .inr (1, [.ref oba_0, .int o_5, .int o_6])), (oba_0, .inl (k 0, 8, .inl o_7)), (tn, .inr (10, [.int tnv0, .int tnv1, .int tnv2, .ref tn_3, .ref tn_4, .ref tn_5, .ref tn_6, .int tnv7, .int tnv8, .ref tn_9, .ref tn_10, .int tnv11, .ref tn_12, .ref tn_13, .ref tn_14, .ref tn_15, .int tnv16, .ref tn_17, .ref tn_18, .ref tnt])), (tn_3, .inl (k 0, 10, .inl tng3)), (tn_4, .inl (k 0, 10, .inl tng4)), (tn_5, .inl (k 0, 10, .inl tng5)), (tn_9, .inl (k 0, 4, .inl tng9)), (tn_10, .inl (k 0, 4, .inl tng10))]) [3, 4, 5, 6, 7, 8, 9, 10] rfl
    have hDc := hD.sub (ws' := [(oba, .inr (1, [.ref oba_0, .int o_5, .int o_6])), (oba_0, .inl (k 0, 8, .inl o_7)), (tn, .inr (10, [.int tnv0, .int tnv1, .int tnv2, .ref tn_3, .ref tn_4, .ref tn_5, .ref tn_6, .int tnv7, .int tnv8, .ref tn_9, .ref tn_10, .int tnv11, .ref tn_12, .ref tn_13, .ref tn_14, .ref tn_15, .int tnv16, .ref tn_17, .ref tn_18, .ref tnt])), (tn_3, .inl (k 0, 10, .inl tng3)), (tn_4, .inl (k 0, 10, .inl tng4)), (tn_5, .inl (k 0, 10, .inl tng5)), (tn_9, .inl (k 0, 4, .inl tng9)), (tn_10, .inl (k 0, 4, .inl tng10))]) [3, 4, 5, 6, 7, 8, 9, 10] (by decide) rfl
    have hFc := va_free (wc := [(oba, .inr (1, [.ref oba_0, .int o_5, .int o_6])), (oba_0, .inl (k 0, 8, .inl o_7)), (tn, .inr (10, [.int tnv0, .int tnv1, .int tnv2, .ref tn_3, .ref tn_4, .ref tn_5, .ref tn_6, .int tnv7, .int tnv8, .ref tn_9, .ref tn_10, .int tnv11, .ref tn_12, .ref tn_13, .ref tn_14, .ref tn_15, .int tnv16, .ref tn_17, .ref tn_18, .ref tnt])), (tn_3, .inl (k 0, 10, .inl tng3)), (tn_4, .inl (k 0, 10, .inl tng4)), (tn_5, .inl (k 0, 10, .inl tng5)), (tn_9, .inl (k 0, 4, .inl tng9)), (tn_10, .inl (k 0, 4, .inl tng10))]) hD hS hA [3, 4, 5, 6, 7, 8, 9, 10] rfl
    refine va_calli (va_runV (C := RX1) (As := [.ref tn, .int p1]) (rest := []) ⟨hx, hb, hml, hown, hts⟩ (c_X1_wayTo l D k oba tn p1 oba_0 o_5 o_6 o_7 tnv0 tnv1 tnv2 tn_3 tn_4 tn_5 tn_6 tnv7 tnv8 tn_9 tn_10 tnv11 tn_12 tn_13 tn_14 tn_15 tnv16 tn_17 tn_18 tnt tng3 tng4 tng5 tng9 tng10 H.size (show 0 ≤ p1.toInt ∧ p1.toInt ≤ 7 from by omega) hw_9 (show 0 ≤ tnv0.toInt ∧ tnv0.toInt ≤ 8 from by omega) (show 0 ≤ tnv2.toInt ∧ tnv2.toInt ≤ 10 from by omega) (show 0 ≤ tnv8.toInt ∧ tnv8.toInt ≤ 4 from by omega) (show 0 ≤ tnv11.toInt ∧ tnv11.toInt ≤ 6 from by omega) (show 0 ≤ tnv16.toInt ∧ tnv16.toInt ≤ 2 from by omega) hp_tng3_0 hp_tng4_0 hp_tng5_0 hp_tng9_0 hp_tng10_0) (cwV 2 hts (gV tw_5_157 tw_4_96 tw_4_97 tw_1_6 tw_4_98) rfl rfl rfl hdV_X1_wayTo ⟨Nat.le_of_ble_eq_true rfl, Nat.le_of_ble_eq_true rfl⟩) (cz_V hK hPc hDc hN (ci := 1) (q0 := 0) rfl rfl [.ref tn, .int p1]) rfl rfl hl.1 rfl (lv_room (Nat.le_of_ble_eq_true rfl)) dX3_weighLanes_40 ⟨Nat.le_of_ble_eq_true rfl, Nat.le_of_ble_eq_true rfl⟩) hS (fun q _ h => hFc q h) hFc (fun r_12 uZ tZ H1 locs ht hvm hw hB hz1 hk1 hS => ?_)
    obtain ⟨hP1, hK1, hD1⟩ := hB
    rw [ht] at hP1
    obtain ⟨hP, hD⟩ := va_join (wr := [(ob, .inr (3, [.ref oba, .ref ob_1])), (ob_1, .inl (k 2, 1000, .inr (.inl obg1))), (tn_6, .inl (k 0, 10, .inl tng6))]) (w1 := [(oba, .inr (1, [.ref oba_0, .int o_5, .int o_6])), (oba_0, .inl (k 0, 8, .inl o_7)), (tn, .inr (10, [.int tnv0, .int tnv1, .int tnv2, .ref tn_3, .ref tn_4, .ref tn_5, .ref tn_6, .int tnv7, .int tnv8, .ref tn_9, .ref tn_10, .int tnv11, .ref tn_12, .ref tn_13, .ref tn_14, .ref tn_15, .int tnv16, .ref tn_17, .ref tn_18, .ref tnt])), (tn_3, .inl (k 0, 10, .inl tng3)), (tn_4, .inl (k 0, 10, .inl tng4)), (tn_5, .inl (k 0, 10, .inl tng5)), (tn_9, .inl (k 0, 4, .inl tng9)), (tn_10, .inl (k 0, 4, .inl tng10))]) hP hD [3, 4, 5, 6, 7, 8, 9, 10] [0, 1, 2] rfl rfl (by decide) (by decide) hk1 hFc hP1 hD1
    clear hK1 hP1 hD1 hPc hDc hFc
    clear hk1 hz1 ht hvm
    have hP : va_P D vwCl [(ob, .inr (3, [.ref oba, .ref ob_1])), (ob_1, .inl (k 2, 1000, .inr (.inl obg1))), (tn_6, .inl (k 0, 10, .inl tng6)), (oba, .inr (1, [.ref oba_0, .int o_5, .int o_6])), (oba_0, .inl (k 0, 8, .inl o_7)), (tn, .inr (10, [.int tnv0, .int tnv1, .int tnv2, .ref tn_3, .ref tn_4, .ref tn_5, .ref tn_6, .int tnv7, .int tnv8, .ref tn_9, .ref tn_10, .int tnv11, .ref tn_12, .ref tn_13, .ref tn_14, .ref tn_15, .int tnv16, .ref tn_17, .ref tn_18, .ref tnt])), (tn_3, .inl (k 0, 10, .inl tng3)), (tn_4, .inl (k 0, 10, .inl tng4)), (tn_5, .inl (k 0, 10, .inl tng5)), (tn_9, .inl (k 0, 4, .inl tng9)), (tn_10, .inl (k 0, 4, .inl tng10))] H1 := hP
    have hD : va_D A [(ob, .inr (3, [.ref oba, .ref ob_1])), (ob_1, .inl (k 2, 1000, .inr (.inl obg1))), (tn_6, .inl (k 0, 10, .inl tng6)), (oba, .inr (1, [.ref oba_0, .int o_5, .int o_6])), (oba_0, .inl (k 0, 8, .inl o_7)), (tn, .inr (10, [.int tnv0, .int tnv1, .int tnv2, .ref tn_3, .ref tn_4, .ref tn_5, .ref tn_6, .int tnv7, .int tnv8, .ref tn_9, .ref tn_10, .int tnv11, .ref tn_12, .ref tn_13, .ref tn_14, .ref tn_15, .int tnv16, .ref tn_17, .ref tn_18, .ref tnt])), (tn_3, .inl (k 0, 10, .inl tng3)), (tn_4, .inl (k 0, 10, .inl tng4)), (tn_5, .inl (k 0, 10, .inl tng5)), (tn_9, .inl (k 0, 4, .inl tng9)), (tn_10, .inl (k 0, 4, .inl tng10))] := hD
    generalize H1 = H at hP hS ⊢
    have hw_13 : (0 ≤ r_12.toInt ∧ r_12.toInt ≤ 1023) := hw
    have hw_14 := hw_13
    clear hw
    refine lv_iload_n hx hb dX3_weighLanes_43 rfl (lv_at hl 4 rfl) ?_
    refine lv_iconst (v := (-1)) hx hb dX3_weighLanes_44 (by decide) ?_
    refine lv_ixor hx hb dX3_weighLanes_45 ?_
    refine lv_topi (fun x_15 ex_15 => ?_)
    have zrp2 := z_rng p2
    refine lv_iand hx hb dX3_weighLanes_46 ?_
    refine lv_topi (fun x_16 ex_16 => ?_)
    have zrx_15 := z_rng x_15
    have zx_16 : 0 ≤ x_16.toInt ∧ x_16.toInt ≤ r_12.toInt := by rw [ex_16]; exact z_andL (by omega)
    refine lv_istore (lv' := [(9, .int x_16), (8, .int x_10), (0, .ref ob), (1, .ref tn), (2, .int p1), (3, .int p2), (4, .int p3), (5, .long p4), (7, .int 1)]) hx hb dX3_weighLanes_47 hl (by decide) rfl (fun ls hl => ?_)
    refine lv_iload hx hb dX3_weighLanes_49 (lv_at hl 0 rfl) ?_
    refine lv_iload hx hb dX3_weighLanes_51 (lv_at hl 0 rfl) ?_
    refine lv_ineg hx hb dX3_weighLanes_53 ?_
    refine lv_topi (fun x_17 ex_17 => ?_)
    refine lv_iand hx hb dX3_weighLanes_54 ?_
    refine lv_topi (fun x_18 ex_18 => ?_)
    have zrx_17 := z_rng x_17
    have zx_18 : 0 ≤ x_18.toInt ∧ x_18.toInt ≤ x_16.toInt := by rw [ex_18]; exact z_andL (by omega)
    refine lv_iconst (v := 1) hx hb dX3_weighLanes_55 (by decide) ?_
    refine lv_isub hx hb dX3_weighLanes_56 ?_
    refine lv_topi (fun x_19 ex_19 => ?_)
    have zx_19 : x_19.toInt = x_18.toInt - 1 := by rw [ex_19]; exact z_sub rfl rfl (by omega) (by omega)
    have hPc := hP.sub (ws' := []) [] rfl
    have hDc := hD.sub (ws' := []) [] (by decide) rfl
    have hFc := va_free (wc := []) hD hS hA [] rfl
    refine va_calli (va_runS (As := [.int x_19]) (rest := []) ⟨hx, hb, hml, hown, hts⟩ (c_J6_bitCount_0f7a4 l D k x_19 H.size) (va_cwS 1 hts (gS tw_5_158 tw_4_101 tw_1_20 tw_4_102) rfl rfl rfl hdS_J6_bitCount_0f7a4 ⟨Nat.le_of_ble_eq_true rfl, Nat.le_of_ble_eq_true rfl⟩) (cz_S hK hPc hDc hN [.int x_19]) rfl rfl hl.1 rfl (lv_room (Nat.le_of_ble_eq_true rfl)) dX3_weighLanes_57 ⟨Nat.le_of_ble_eq_true rfl, Nat.le_of_ble_eq_true rfl⟩) hS (fun q _ h => hFc q h) hFc (fun r_20 uZ tZ H1 locs ht hvm hw hB hz1 hk1 hS => ?_)
    obtain ⟨hP1, hK1, hD1⟩ := hB
    rw [ht] at hP1
    obtain ⟨hP, hD⟩ := va_join (wr := [(ob, .inr (3, [.ref oba, .ref ob_1])), (ob_1, .inl (k 2, 1000, .inr (.inl obg1))), (tn_6, .inl (k 0, 10, .inl tng6)), (oba, .inr (1, [.ref oba_0, .int o_5, .int o_6])), (oba_0, .inl (k 0, 8, .inl o_7)), (tn, .inr (10, [.int tnv0, .int tnv1, .int tnv2, .ref tn_3, .ref tn_4, .ref tn_5, .ref tn_6, .int tnv7, .int tnv8, .ref tn_9, .ref tn_10, .int tnv11, .ref tn_12, .ref tn_13, .ref tn_14, .ref tn_15, .int tnv16, .ref tn_17, .ref tn_18, .ref tnt])), (tn_3, .inl (k 0, 10, .inl tng3)), (tn_4, .inl (k 0, 10, .inl tng4)), (tn_5, .inl (k 0, 10, .inl tng5)), (tn_9, .inl (k 0, 4, .inl tng9)), (tn_10, .inl (k 0, 4, .inl tng10))]) (w1 := []) hP hD [] [0, 1, 2, 3, 4, 5, 6, 7, 8, 9, 10] rfl rfl (by decide) (by decide) hk1 hFc hP1 hD1
    clear hK1 hP1 hD1 hPc hDc hFc
    clear hk1 hz1 ht hvm
    have hP : va_P D vwCl [(ob, .inr (3, [.ref oba, .ref ob_1])), (ob_1, .inl (k 2, 1000, .inr (.inl obg1))), (tn_6, .inl (k 0, 10, .inl tng6)), (oba, .inr (1, [.ref oba_0, .int o_5, .int o_6])), (oba_0, .inl (k 0, 8, .inl o_7)), (tn, .inr (10, [.int tnv0, .int tnv1, .int tnv2, .ref tn_3, .ref tn_4, .ref tn_5, .ref tn_6, .int tnv7, .int tnv8, .ref tn_9, .ref tn_10, .int tnv11, .ref tn_12, .ref tn_13, .ref tn_14, .ref tn_15, .int tnv16, .ref tn_17, .ref tn_18, .ref tnt])), (tn_3, .inl (k 0, 10, .inl tng3)), (tn_4, .inl (k 0, 10, .inl tng4)), (tn_5, .inl (k 0, 10, .inl tng5)), (tn_9, .inl (k 0, 4, .inl tng9)), (tn_10, .inl (k 0, 4, .inl tng10))] H1 := hP
    have hD : va_D A [(ob, .inr (3, [.ref oba, .ref ob_1])), (ob_1, .inl (k 2, 1000, .inr (.inl obg1))), (tn_6, .inl (k 0, 10, .inl tng6)), (oba, .inr (1, [.ref oba_0, .int o_5, .int o_6])), (oba_0, .inl (k 0, 8, .inl o_7)), (tn, .inr (10, [.int tnv0, .int tnv1, .int tnv2, .ref tn_3, .ref tn_4, .ref tn_5, .ref tn_6, .int tnv7, .int tnv8, .ref tn_9, .ref tn_10, .int tnv11, .ref tn_12, .ref tn_13, .ref tn_14, .ref tn_15, .int tnv16, .ref tn_17, .ref tn_18, .ref tnt])), (tn_3, .inl (k 0, 10, .inl tng3)), (tn_4, .inl (k 0, 10, .inl tng4)), (tn_5, .inl (k 0, 10, .inl tng5)), (tn_9, .inl (k 0, 4, .inl tng9)), (tn_10, .inl (k 0, 4, .inl tng10))] := hD
    generalize H1 = H at hP hS ⊢
    have hw_21 : (0 ≤ r_20.toInt ∧ r_20.toInt ≤ 63) := hw
    have hw_22 := hw_21
    clear hw
    refine lv_istore (lv' := [(10, .int r_20), (9, .int x_16), (8, .int x_10), (0, .ref ob), (1, .ref tn), (2, .int p1), (3, .int p2), (4, .int p3), (5, .long p4), (7, .int 1)]) hx hb dX3_weighLanes_60 hl (by decide) rfl (fun ls hl => ?_)
    refine lv_iload hx hb dX3_weighLanes_62 (lv_at hl 1 rfl) ?_
    refine lv_if_eq (tgt := 81) hx hb dX3_weighLanes_64 (by decide) (fun h_23 => ?_) (fun h_23 => ?_)
    · skip
      have zh_23 : x_16.toInt = 0 := z_eq h_23
      refine lv_aload_n hx hb dX3_weighLanes_81 rfl (lv_at hl 3 rfl) ?_
      refine va_get (D := D) (ci := 3) (v := .ref ob_1) (C := RX3) (T := TX3) (N := 2) hx hb hts iT_X3 hown hK hP 0 rfl rfl 1 (by decide) (hts _ tw_2_164) (fun _ h9 => h9) rfl dX3_weighLanes_82 ?_
      refine lv_iload hx hb dX3_weighLanes_85 (lv_at hl 2 rfl) ?_
      refine lv_dup2_11 hx hb dX3_weighLanes_87 rfl rfl ?_
      refine va_lald hx hb hK hP 1 2 rfl rfl (z_in (by omega) (by omega)) dX3_weighLanes_88 ?_
      refine lv_topl (fun x_24 ex_24 => ?_)
      refine lv_lload hx hb dX3_weighLanes_89 (lv_at hl 8 rfl) ?_
      refine lv_ladd hx hb dX3_weighLanes_91 ?_
      refine lv_topl (fun x_25 ex_25 => ?_)
      refine va_last hx hb hK hP hD hS 1 2 rfl rfl (z_in (by omega) (by omega)) dX3_weighLanes_92 (fun H locs hP hD hS => ?_)
      obtain ⟨g_26, eg_26⟩ : ∃ z : Nat → Int64, vp_updL obg1 x_10.toNatClampNeg x_25 = z := ⟨_, rfl⟩
      have hP : va_P D vwCl [(ob, .inr (3, [.ref oba, .ref ob_1])), (ob_1, .inl (k 2, 1000, .inr (.inl (vp_updL obg1 x_10.toNatClampNeg x_25)))), (tn_6, .inl (k 0, 10, .inl tng6)), (oba, .inr (1, [.ref oba_0, .int o_5, .int o_6])), (oba_0, .inl (k 0, 8, .inl o_7)), (tn, .inr (10, [.int tnv0, .int tnv1, .int tnv2, .ref tn_3, .ref tn_4, .ref tn_5, .ref tn_6, .int tnv7, .int tnv8, .ref tn_9, .ref tn_10, .int tnv11, .ref tn_12, .ref tn_13, .ref tn_14, .ref tn_15, .int tnv16, .ref tn_17, .ref tn_18, .ref tnt])), (tn_3, .inl (k 0, 10, .inl tng3)), (tn_4, .inl (k 0, 10, .inl tng4)), (tn_5, .inl (k 0, 10, .inl tng5)), (tn_9, .inl (k 0, 4, .inl tng9)), (tn_10, .inl (k 0, 4, .inl tng10))] H := hP
      have hD : va_D A [(ob, .inr (3, [.ref oba, .ref ob_1])), (ob_1, .inl (k 2, 1000, .inr (.inl (vp_updL obg1 x_10.toNatClampNeg x_25)))), (tn_6, .inl (k 0, 10, .inl tng6)), (oba, .inr (1, [.ref oba_0, .int o_5, .int o_6])), (oba_0, .inl (k 0, 8, .inl o_7)), (tn, .inr (10, [.int tnv0, .int tnv1, .int tnv2, .ref tn_3, .ref tn_4, .ref tn_5, .ref tn_6, .int tnv7, .int tnv8, .ref tn_9, .ref tn_10, .int tnv11, .ref tn_12, .ref tn_13, .ref tn_14, .ref tn_15, .int tnv16, .ref tn_17, .ref tn_18, .ref tnt])), (tn_3, .inl (k 0, 10, .inl tng3)), (tn_4, .inl (k 0, 10, .inl tng4)), (tn_5, .inl (k 0, 10, .inl tng5)), (tn_9, .inl (k 0, 4, .inl tng9)), (tn_10, .inl (k 0, 4, .inl tng10))] := hD
      rw [eg_26] at hP hD
      have hP9 := hP.sub (ws' := [(ob, .inr (3, [.ref oba, .ref ob_1])), (oba, .inr (1, [.ref oba_0, .int o_5, .int o_6])), (oba_0, .inl (k 0, 8, .inl o_7)), (ob_1, .inl (k 2, 1000, .inr (.inl g_26))), (tn, .inr (10, [.int tnv0, .int tnv1, .int tnv2, .ref tn_3, .ref tn_4, .ref tn_5, .ref tn_6, .int tnv7, .int tnv8, .ref tn_9, .ref tn_10, .int tnv11, .ref tn_12, .ref tn_13, .ref tn_14, .ref tn_15, .int tnv16, .ref tn_17, .ref tn_18, .ref tnt])), (tn_3, .inl (k 0, 10, .inl tng3)), (tn_4, .inl (k 0, 10, .inl tng4)), (tn_5, .inl (k 0, 10, .inl tng5)), (tn_6, .inl (k 0, 10, .inl tng6)), (tn_9, .inl (k 0, 4, .inl tng9)), (tn_10, .inl (k 0, 4, .inl tng10))]) [0, 3, 4, 1, 5, 6, 7, 8, 2, 9, 10] rfl
      have hD9 := hD.sub (ws' := [(ob, .inr (3, [.ref oba, .ref ob_1])), (oba, .inr (1, [.ref oba_0, .int o_5, .int o_6])), (oba_0, .inl (k 0, 8, .inl o_7)), (ob_1, .inl (k 2, 1000, .inr (.inl g_26))), (tn, .inr (10, [.int tnv0, .int tnv1, .int tnv2, .ref tn_3, .ref tn_4, .ref tn_5, .ref tn_6, .int tnv7, .int tnv8, .ref tn_9, .ref tn_10, .int tnv11, .ref tn_12, .ref tn_13, .ref tn_14, .ref tn_15, .int tnv16, .ref tn_17, .ref tn_18, .ref tnt])), (tn_3, .inl (k 0, 10, .inl tng3)), (tn_4, .inl (k 0, 10, .inl tng4)), (tn_5, .inl (k 0, 10, .inl tng5)), (tn_6, .inl (k 0, 10, .inl tng6)), (tn_9, .inl (k 0, 4, .inl tng9)), (tn_10, .inl (k 0, 4, .inl tng10))]) [0, 3, 4, 1, 5, 6, 7, 8, 2, 9, 10] (by decide) rfl
      exact W.vret hx hb hr (fun tZ ht hW => ⟨⟨(o_5, o_6, o_7, g_26), rfl, hw_9, by rw [ht]; exact hP9, va_K.moved hW.alike hK, hD9⟩, hS.F ht⟩) hS.2.2 dX3_weighLanes_93
    · skip
      have zh_23 : ¬ x_16.toInt = 0 := z_ne h_23
      refine lv_iload hx hb dX3_weighLanes_67 (lv_at hl 0 rfl) ?_
      refine lv_bipush (v := 10) hx hb dX3_weighLanes_69 (by decide) ?_
      refine lv_icmp_ge (tgt := 81) hx hb dX3_weighLanes_71 (by decide) (fun h_27 => ?_) (fun h_27 => ?_)
      · skip
        have zh_27 : 10 ≤ r_20.toInt := z_le h_27
        refine lv_aload_n hx hb dX3_weighLanes_81 rfl (lv_at hl 3 rfl) ?_
        refine va_get (D := D) (ci := 3) (v := .ref ob_1) (C := RX3) (T := TX3) (N := 2) hx hb hts iT_X3 hown hK hP 0 rfl rfl 1 (by decide) (hts _ tw_2_164) (fun _ h9 => h9) rfl dX3_weighLanes_82 ?_
        refine lv_iload hx hb dX3_weighLanes_85 (lv_at hl 2 rfl) ?_
        refine lv_dup2_11 hx hb dX3_weighLanes_87 rfl rfl ?_
        refine va_lald hx hb hK hP 1 2 rfl rfl (z_in (by omega) (by omega)) dX3_weighLanes_88 ?_
        refine lv_topl (fun x_28 ex_28 => ?_)
        refine lv_lload hx hb dX3_weighLanes_89 (lv_at hl 8 rfl) ?_
        refine lv_ladd hx hb dX3_weighLanes_91 ?_
        refine lv_topl (fun x_29 ex_29 => ?_)
        refine va_last hx hb hK hP hD hS 1 2 rfl rfl (z_in (by omega) (by omega)) dX3_weighLanes_92 (fun H locs hP hD hS => ?_)
        obtain ⟨g_30, eg_30⟩ : ∃ z : Nat → Int64, vp_updL obg1 x_10.toNatClampNeg x_29 = z := ⟨_, rfl⟩
        have hP : va_P D vwCl [(ob, .inr (3, [.ref oba, .ref ob_1])), (ob_1, .inl (k 2, 1000, .inr (.inl (vp_updL obg1 x_10.toNatClampNeg x_29)))), (tn_6, .inl (k 0, 10, .inl tng6)), (oba, .inr (1, [.ref oba_0, .int o_5, .int o_6])), (oba_0, .inl (k 0, 8, .inl o_7)), (tn, .inr (10, [.int tnv0, .int tnv1, .int tnv2, .ref tn_3, .ref tn_4, .ref tn_5, .ref tn_6, .int tnv7, .int tnv8, .ref tn_9, .ref tn_10, .int tnv11, .ref tn_12, .ref tn_13, .ref tn_14, .ref tn_15, .int tnv16, .ref tn_17, .ref tn_18, .ref tnt])), (tn_3, .inl (k 0, 10, .inl tng3)), (tn_4, .inl (k 0, 10, .inl tng4)), (tn_5, .inl (k 0, 10, .inl tng5)), (tn_9, .inl (k 0, 4, .inl tng9)), (tn_10, .inl (k 0, 4, .inl tng10))] H := hP
        have hD : va_D A [(ob, .inr (3, [.ref oba, .ref ob_1])), (ob_1, .inl (k 2, 1000, .inr (.inl (vp_updL obg1 x_10.toNatClampNeg x_29)))), (tn_6, .inl (k 0, 10, .inl tng6)), (oba, .inr (1, [.ref oba_0, .int o_5, .int o_6])), (oba_0, .inl (k 0, 8, .inl o_7)), (tn, .inr (10, [.int tnv0, .int tnv1, .int tnv2, .ref tn_3, .ref tn_4, .ref tn_5, .ref tn_6, .int tnv7, .int tnv8, .ref tn_9, .ref tn_10, .int tnv11, .ref tn_12, .ref tn_13, .ref tn_14, .ref tn_15, .int tnv16, .ref tn_17, .ref tn_18, .ref tnt])), (tn_3, .inl (k 0, 10, .inl tng3)), (tn_4, .inl (k 0, 10, .inl tng4)), (tn_5, .inl (k 0, 10, .inl tng5)), (tn_9, .inl (k 0, 4, .inl tng9)), (tn_10, .inl (k 0, 4, .inl tng10))] := hD
        rw [eg_30] at hP hD
        have hP9 := hP.sub (ws' := [(ob, .inr (3, [.ref oba, .ref ob_1])), (oba, .inr (1, [.ref oba_0, .int o_5, .int o_6])), (oba_0, .inl (k 0, 8, .inl o_7)), (ob_1, .inl (k 2, 1000, .inr (.inl g_30))), (tn, .inr (10, [.int tnv0, .int tnv1, .int tnv2, .ref tn_3, .ref tn_4, .ref tn_5, .ref tn_6, .int tnv7, .int tnv8, .ref tn_9, .ref tn_10, .int tnv11, .ref tn_12, .ref tn_13, .ref tn_14, .ref tn_15, .int tnv16, .ref tn_17, .ref tn_18, .ref tnt])), (tn_3, .inl (k 0, 10, .inl tng3)), (tn_4, .inl (k 0, 10, .inl tng4)), (tn_5, .inl (k 0, 10, .inl tng5)), (tn_6, .inl (k 0, 10, .inl tng6)), (tn_9, .inl (k 0, 4, .inl tng9)), (tn_10, .inl (k 0, 4, .inl tng10))]) [0, 3, 4, 1, 5, 6, 7, 8, 2, 9, 10] rfl
        have hD9 := hD.sub (ws' := [(ob, .inr (3, [.ref oba, .ref ob_1])), (oba, .inr (1, [.ref oba_0, .int o_5, .int o_6])), (oba_0, .inl (k 0, 8, .inl o_7)), (ob_1, .inl (k 2, 1000, .inr (.inl g_30))), (tn, .inr (10, [.int tnv0, .int tnv1, .int tnv2, .ref tn_3, .ref tn_4, .ref tn_5, .ref tn_6, .int tnv7, .int tnv8, .ref tn_9, .ref tn_10, .int tnv11, .ref tn_12, .ref tn_13, .ref tn_14, .ref tn_15, .int tnv16, .ref tn_17, .ref tn_18, .ref tnt])), (tn_3, .inl (k 0, 10, .inl tng3)), (tn_4, .inl (k 0, 10, .inl tng4)), (tn_5, .inl (k 0, 10, .inl tng5)), (tn_6, .inl (k 0, 10, .inl tng6)), (tn_9, .inl (k 0, 4, .inl tng9)), (tn_10, .inl (k 0, 4, .inl tng10))]) [0, 3, 4, 1, 5, 6, 7, 8, 2, 9, 10] (by decide) rfl
        exact W.vret hx hb hr (fun tZ ht hW => ⟨⟨(o_5, o_6, o_7, g_30), rfl, hw_9, by rw [ht]; exact hP9, va_K.moved hW.alike hK, hD9⟩, hS.F ht⟩) hS.2.2 dX3_weighLanes_93
      · skip
        have zh_27 : r_20.toInt < 10 := z_nle h_27
        refine lv_iload hx hb dX3_weighLanes_74 (lv_at hl 9 rfl) ?_
        refine lv_bipush (v := 10) hx hb dX3_weighLanes_76 (by decide) ?_
        refine lv_icmp_lt (tgt := 94) hx hb dX3_weighLanes_78 (by decide) (fun _ => ?_) (fun c9 => absurd c9 (by decide))
        refine lv_iconst (v := 1) hx hb dX3_weighLanes_94 (by decide) ?_
        refine lv_iload hx hb dX3_weighLanes_95 (lv_at hl 0 rfl) ?_
        refine lv_ishl hx hb dX3_weighLanes_97 ?_
        refine lv_topi (fun x_31 ex_31 => ?_)
        have zx_31 : 1 ≤ x_31.toInt ∧ x_31.toInt ≤ 512 := by rw [ex_31]; exact z_shl1 9 512 rfl (by decide) (by omega) (by omega)
        refine lv_istore (lv' := [(11, .int x_31), (10, .int r_20), (9, .int x_16), (8, .int x_10), (0, .ref ob), (1, .ref tn), (2, .int p1), (3, .int p2), (4, .int p3), (5, .long p4), (7, .int 1)]) hx hb dX3_weighLanes_98 hl (by decide) rfl (fun ls hl => ?_)
        refine lv_lload hx hb dX3_weighLanes_100 (lv_at hl 9 rfl) ?_
        refine lv_ldc2 (v := 10) hx hb hown (hts _ tw_5_159) dX3_weighLanes_102 ?_
        refine lv_ldiv hx hb dX3_weighLanes_105 (by decide) ?_
        refine lv_topl (fun x_32 ex_32 => ?_)
        refine lv_lstore (lv' := [(12, .long x_32), (11, .int x_31), (10, .int r_20), (9, .int x_16), (8, .int x_10), (0, .ref ob), (1, .ref tn), (2, .int p1), (3, .int p2), (4, .int p3), (5, .long p4), (7, .int 1)]) hx hb dX3_weighLanes_106 hl (by decide) rfl (fun ls hl => ?_)
        refine lv_aload_n hx hb dX3_weighLanes_108 rfl (lv_at hl 5 rfl) ?_
        refine lv_aload_n hx hb dX3_weighLanes_109 rfl (lv_at hl 6 rfl) ?_
        refine lv_iload_n hx hb dX3_weighLanes_110 rfl (lv_at hl 7 rfl) ?_
        refine lv_iload_n hx hb dX3_weighLanes_111 rfl (lv_at hl 8 rfl) ?_
        refine lv_iload hx hb dX3_weighLanes_112 (lv_at hl 1 rfl) ?_
        refine lv_ior hx hb dX3_weighLanes_114 ?_
        refine lv_topi (fun x_33 ex_33 => ?_)
        refine lv_iload hx hb dX3_weighLanes_115 (lv_at hl 9 rfl) ?_
        refine lv_lload hx hb dX3_weighLanes_117 (lv_at hl 0 rfl) ?_
        refine lv_bipush (v := 10) hx hb dX3_weighLanes_119 (by decide) ?_
        refine lv_aload_n hx hb dX3_weighLanes_121 rfl (lv_at hl 6 rfl) ?_
        refine va_get (D := D) (ci := 10) (v := .ref tn_6) (C := RX10) (T := TX10) (N := 20) hx hb hts iT_X10 hown hK hP 5 rfl rfl 6 (by decide) (hts _ tw_1_98) (fun _ h9 => h9) rfl dX3_weighLanes_122 ?_
        refine lv_iload hx hb dX3_weighLanes_125 (lv_at hl 2 rfl) ?_
        refine va_iald hx hb hK hP 2 0 rfl rfl (z_in (by omega) (by omega)) dX3_weighLanes_127 ?_
        refine lv_topi (fun x_34 ex_34 => ?_)
        have zx_34r0 : 0 ≤ x_34.toInt ∧ x_34.toInt ≤ 10 := by rw [ex_34]; exact PR.ld hp_tng6_0 (by omega) (by omega) (by omega)
        refine lv_isub hx hb dX3_weighLanes_128 ?_
        refine lv_topi (fun x_35 ex_35 => ?_)
        have zx_35 : x_35.toInt = 10 - x_34.toInt := by rw [ex_35]; exact z_sub rfl rfl (by omega) (by omega)
        refine lv_i2l (v := x_35.toInt64) hx hb dX3_weighLanes_129 rfl ?_
        refine lv_lmul hx hb dX3_weighLanes_130 ?_
        refine lv_topl (fun x_36 ex_36 => ?_)
        refine lv_iload hx hb dX3_weighLanes_131 (lv_at hl 11 rfl) ?_
        refine lv_iconst (v := 1) hx hb dX3_weighLanes_133 (by decide) ?_
        refine lv_iadd hx hb dX3_weighLanes_134 ?_
        refine lv_topi (fun x_37 ex_37 => ?_)
        obtain rfl : x_37 = 2 := ex_37.trans (by decide)
        have hPc := hP.sub (ws' := [(ob, .inr (3, [.ref oba, .ref ob_1])), (oba, .inr (1, [.ref oba_0, .int o_5, .int o_6])), (oba_0, .inl (k 0, 8, .inl o_7)), (ob_1, .inl (k 2, 1000, .inr (.inl obg1))), (tn, .inr (10, [.int tnv0, .int tnv1, .int tnv2, .ref tn_3, .ref tn_4, .ref tn_5, .ref tn_6, .int tnv7, .int tnv8, .ref tn_9, .ref tn_10, .int tnv11, .ref tn_12, .ref tn_13, .ref tn_14, .ref tn_15, .int tnv16, .ref tn_17, .ref tn_18, .ref tnt])), (tn_3, .inl (k 0, 10, .inl tng3)), (tn_4, .inl (k 0, 10, .inl tng4)), (tn_5, .inl (k 0, 10, .inl tng5)), (tn_6, .inl (k 0, 10, .inl tng6)), (tn_9, .inl (k 0, 4, .inl tng9)), (tn_10, .inl (k 0, 4, .inl tng10))]) [0, 3, 4, 1, 5, 6, 7, 8, 2, 9, 10] rfl
        have hDc := hD.sub (ws' := [(ob, .inr (3, [.ref oba, .ref ob_1])), (oba, .inr (1, [.ref oba_0, .int o_5, .int o_6])), (oba_0, .inl (k 0, 8, .inl o_7)), (ob_1, .inl (k 2, 1000, .inr (.inl obg1))), (tn, .inr (10, [.int tnv0, .int tnv1, .int tnv2, .ref tn_3, .ref tn_4, .ref tn_5, .ref tn_6, .int tnv7, .int tnv8, .ref tn_9, .ref tn_10, .int tnv11, .ref tn_12, .ref tn_13, .ref tn_14, .ref tn_15, .int tnv16, .ref tn_17, .ref tn_18, .ref tnt])), (tn_3, .inl (k 0, 10, .inl tng3)), (tn_4, .inl (k 0, 10, .inl tng4)), (tn_5, .inl (k 0, 10, .inl tng5)), (tn_6, .inl (k 0, 10, .inl tng6)), (tn_9, .inl (k 0, 4, .inl tng9)), (tn_10, .inl (k 0, 4, .inl tng10))]) [0, 3, 4, 1, 5, 6, 7, 8, 2, 9, 10] (by decide) rfl
        have hFc := va_free (wc := [(ob, .inr (3, [.ref oba, .ref ob_1])), (oba, .inr (1, [.ref oba_0, .int o_5, .int o_6])), (oba_0, .inl (k 0, 8, .inl o_7)), (ob_1, .inl (k 2, 1000, .inr (.inl obg1))), (tn, .inr (10, [.int tnv0, .int tnv1, .int tnv2, .ref tn_3, .ref tn_4, .ref tn_5, .ref tn_6, .int tnv7, .int tnv8, .ref tn_9, .ref tn_10, .int tnv11, .ref tn_12, .ref tn_13, .ref tn_14, .ref tn_15, .int tnv16, .ref tn_17, .ref tn_18, .ref tnt])), (tn_3, .inl (k 0, 10, .inl tng3)), (tn_4, .inl (k 0, 10, .inl tng4)), (tn_5, .inl (k 0, 10, .inl tng5)), (tn_6, .inl (k 0, 10, .inl tng6)), (tn_9, .inl (k 0, 4, .inl tng9)), (tn_10, .inl (k 0, 4, .inl tng10))]) hD hS hA [0, 3, 4, 1, 5, 6, 7, 8, 2, 9, 10] rfl
        refine va_callv (va_runV (C := RX3) (As := [.ref tn, .int p1, .int x_33, .int p3, .long x_36, .int 2]) (rest := []) ⟨hx, hb, hml, hown, hts⟩ (c_X3_weighLanes_8 l D k ob tn p1 x_33 p3 x_36 oba ob_1 oba_0 o_5 o_6 o_7 obg1 tnv0 tnv1 tnv2 tn_3 tn_4 tn_5 tn_6 tnv7 tnv8 tn_9 tn_10 tnv11 tn_12 tn_13 tn_14 tn_15 tnv16 tn_17 tn_18 tnt tng3 tng4 tng5 tng6 tng9 tng10 H.size (show 0 ≤ p1.toInt ∧ p1.toInt ≤ 7 from by omega) hw_9 (show 0 ≤ tnv0.toInt ∧ tnv0.toInt ≤ 8 from by omega) (show 0 ≤ tnv2.toInt ∧ tnv2.toInt ≤ 10 from by omega) (show 0 ≤ tnv8.toInt ∧ tnv8.toInt ≤ 4 from by omega) (show 0 ≤ tnv11.toInt ∧ tnv11.toInt ≤ 6 from by omega) (show 0 ≤ tnv16.toInt ∧ tnv16.toInt ≤ 2 from by omega) hp_tng3_0 hp_tng4_0 hp_tng5_0 hp_tng6_0 hp_tng9_0 hp_tng10_0) (cwV 6 hts (gV tw_5_151 tw_5_153 tw_p_34 tw_1_12 tw_5_154) rfl rfl rfl hdV_X3_weighLanes ⟨Nat.le_of_ble_eq_true rfl, Nat.le_of_ble_eq_true rfl⟩) (cz_V hK hPc hDc hN (ci := 3) (q0 := 0) rfl rfl [.ref tn, .int p1, .int x_33, .int p3, .long x_36, .int 2]) rfl rfl hl.1 rfl (lv_room (Nat.le_of_ble_eq_true rfl)) dX3_weighLanes_135 ⟨Nat.le_of_ble_eq_true rfl, Nat.le_of_ble_eq_true rfl⟩) hS (fun q _ h => hFc q h) hFc (fun uZ tZ H1 locs ht hvm hw hB hz1 hk1 hS => ?_)
        obtain ⟨o_39, o_40, o_41, o_42⟩ := uZ
        obtain ⟨hP1, hK1, hD1⟩ := hB
        rw [ht] at hP1
        obtain ⟨hP, hD⟩ := va_join (wr := []) (w1 := [(ob, .inr (3, [.ref oba, .ref ob_1])), (oba, .inr (1, [.ref oba_0, .int o_39, .int o_40])), (oba_0, .inl (k 0, 8, .inl o_41)), (ob_1, .inl (k 2, 1000, .inr (.inl o_42))), (tn, .inr (10, [.int tnv0, .int tnv1, .int tnv2, .ref tn_3, .ref tn_4, .ref tn_5, .ref tn_6, .int tnv7, .int tnv8, .ref tn_9, .ref tn_10, .int tnv11, .ref tn_12, .ref tn_13, .ref tn_14, .ref tn_15, .int tnv16, .ref tn_17, .ref tn_18, .ref tnt])), (tn_3, .inl (k 0, 10, .inl tng3)), (tn_4, .inl (k 0, 10, .inl tng4)), (tn_5, .inl (k 0, 10, .inl tng5)), (tn_6, .inl (k 0, 10, .inl tng6)), (tn_9, .inl (k 0, 4, .inl tng9)), (tn_10, .inl (k 0, 4, .inl tng10))]) hP hD [0, 3, 4, 1, 5, 6, 7, 8, 2, 9, 10] [] rfl rfl (by decide) (by decide) hk1 hFc hP1 hD1
        clear hK1 hP1 hD1 hPc hDc hFc
        clear hk1 hz1 ht hvm
        have hP : va_P D vwCl [(ob, .inr (3, [.ref oba, .ref ob_1])), (oba, .inr (1, [.ref oba_0, .int o_39, .int o_40])), (oba_0, .inl (k 0, 8, .inl o_41)), (ob_1, .inl (k 2, 1000, .inr (.inl o_42))), (tn, .inr (10, [.int tnv0, .int tnv1, .int tnv2, .ref tn_3, .ref tn_4, .ref tn_5, .ref tn_6, .int tnv7, .int tnv8, .ref tn_9, .ref tn_10, .int tnv11, .ref tn_12, .ref tn_13, .ref tn_14, .ref tn_15, .int tnv16, .ref tn_17, .ref tn_18, .ref tnt])), (tn_3, .inl (k 0, 10, .inl tng3)), (tn_4, .inl (k 0, 10, .inl tng4)), (tn_5, .inl (k 0, 10, .inl tng5)), (tn_6, .inl (k 0, 10, .inl tng6)), (tn_9, .inl (k 0, 4, .inl tng9)), (tn_10, .inl (k 0, 4, .inl tng10))] H1 := hP
        have hD : va_D A [(ob, .inr (3, [.ref oba, .ref ob_1])), (oba, .inr (1, [.ref oba_0, .int o_39, .int o_40])), (oba_0, .inl (k 0, 8, .inl o_41)), (ob_1, .inl (k 2, 1000, .inr (.inl o_42))), (tn, .inr (10, [.int tnv0, .int tnv1, .int tnv2, .ref tn_3, .ref tn_4, .ref tn_5, .ref tn_6, .int tnv7, .int tnv8, .ref tn_9, .ref tn_10, .int tnv11, .ref tn_12, .ref tn_13, .ref tn_14, .ref tn_15, .int tnv16, .ref tn_17, .ref tn_18, .ref tnt])), (tn_3, .inl (k 0, 10, .inl tng3)), (tn_4, .inl (k 0, 10, .inl tng4)), (tn_5, .inl (k 0, 10, .inl tng5)), (tn_6, .inl (k 0, 10, .inl tng6)), (tn_9, .inl (k 0, 4, .inl tng9)), (tn_10, .inl (k 0, 4, .inl tng10))] := hD
        generalize H1 = H at hP hS ⊢
        have hw_43 : (PR 8 1 0 0 1000000 o_41) := hw
        have hw_44 := hw_43
        clear hw
        refine lv_aload_n hx hb dX3_weighLanes_138 rfl (lv_at hl 5 rfl) ?_
        refine lv_aload_n hx hb dX3_weighLanes_139 rfl (lv_at hl 6 rfl) ?_
        refine lv_iload_n hx hb dX3_weighLanes_140 rfl (lv_at hl 7 rfl) ?_
        refine lv_iload_n hx hb dX3_weighLanes_141 rfl (lv_at hl 8 rfl) ?_
        refine lv_iload hx hb dX3_weighLanes_142 (lv_at hl 1 rfl) ?_
        refine lv_ior hx hb dX3_weighLanes_144 ?_
        refine lv_topi (fun x_45 ex_45 => ?_)
        obtain rfl : x_33 = x_45 := ex_33.trans ex_45.symm
        refine lv_iload hx hb dX3_weighLanes_145 (lv_at hl 9 rfl) ?_
        refine lv_iload hx hb dX3_weighLanes_147 (lv_at hl 1 rfl) ?_
        refine lv_ior hx hb dX3_weighLanes_149 ?_
        refine lv_topi (fun x_46 ex_46 => ?_)
        have zrp3 := z_rng p3
        refine lv_lload hx hb dX3_weighLanes_150 (lv_at hl 0 rfl) ?_
        refine lv_aload_n hx hb dX3_weighLanes_152 rfl (lv_at hl 6 rfl) ?_
        refine va_get (D := D) (ci := 10) (v := .ref tn_6) (C := RX10) (T := TX10) (N := 20) hx hb hts iT_X10 hown hK hP 4 rfl rfl 6 (by decide) (hts _ tw_1_98) (fun _ h9 => h9) rfl dX3_weighLanes_153 ?_
        refine lv_iload hx hb dX3_weighLanes_156 (lv_at hl 2 rfl) ?_
        refine va_iald hx hb hK hP 8 0 rfl rfl (z_in (by omega) (by omega)) dX3_weighLanes_158 ?_
        refine lv_topi (fun x_47 ex_47 => ?_)
        obtain rfl : x_34 = x_47 := ex_34.trans ex_47.symm
        refine lv_i2l (v := x_34.toInt64) hx hb dX3_weighLanes_159 rfl ?_
        refine lv_lmul hx hb dX3_weighLanes_160 ?_
        refine lv_topl (fun x_48 ex_48 => ?_)
        refine lv_iload hx hb dX3_weighLanes_161 (lv_at hl 11 rfl) ?_
        refine lv_iconst (v := 1) hx hb dX3_weighLanes_163 (by decide) ?_
        refine lv_iadd hx hb dX3_weighLanes_164 ?_
        refine lv_topi (fun x_49 ex_49 => ?_)
        obtain rfl : x_49 = 2 := ex_49.trans (by decide)
        have hPc := hP.sub (ws' := [(ob, .inr (3, [.ref oba, .ref ob_1])), (oba, .inr (1, [.ref oba_0, .int o_39, .int o_40])), (oba_0, .inl (k 0, 8, .inl o_41)), (ob_1, .inl (k 2, 1000, .inr (.inl o_42))), (tn, .inr (10, [.int tnv0, .int tnv1, .int tnv2, .ref tn_3, .ref tn_4, .ref tn_5, .ref tn_6, .int tnv7, .int tnv8, .ref tn_9, .ref tn_10, .int tnv11, .ref tn_12, .ref tn_13, .ref tn_14, .ref tn_15, .int tnv16, .ref tn_17, .ref tn_18, .ref tnt])), (tn_3, .inl (k 0, 10, .inl tng3)), (tn_4, .inl (k 0, 10, .inl tng4)), (tn_5, .inl (k 0, 10, .inl tng5)), (tn_6, .inl (k 0, 10, .inl tng6)), (tn_9, .inl (k 0, 4, .inl tng9)), (tn_10, .inl (k 0, 4, .inl tng10))]) [0, 1, 2, 3, 4, 5, 6, 7, 8, 9, 10] rfl
        have hDc := hD.sub (ws' := [(ob, .inr (3, [.ref oba, .ref ob_1])), (oba, .inr (1, [.ref oba_0, .int o_39, .int o_40])), (oba_0, .inl (k 0, 8, .inl o_41)), (ob_1, .inl (k 2, 1000, .inr (.inl o_42))), (tn, .inr (10, [.int tnv0, .int tnv1, .int tnv2, .ref tn_3, .ref tn_4, .ref tn_5, .ref tn_6, .int tnv7, .int tnv8, .ref tn_9, .ref tn_10, .int tnv11, .ref tn_12, .ref tn_13, .ref tn_14, .ref tn_15, .int tnv16, .ref tn_17, .ref tn_18, .ref tnt])), (tn_3, .inl (k 0, 10, .inl tng3)), (tn_4, .inl (k 0, 10, .inl tng4)), (tn_5, .inl (k 0, 10, .inl tng5)), (tn_6, .inl (k 0, 10, .inl tng6)), (tn_9, .inl (k 0, 4, .inl tng9)), (tn_10, .inl (k 0, 4, .inl tng10))]) [0, 1, 2, 3, 4, 5, 6, 7, 8, 9, 10] (by decide) rfl
        have hFc := va_free (wc := [(ob, .inr (3, [.ref oba, .ref ob_1])), (oba, .inr (1, [.ref oba_0, .int o_39, .int o_40])), (oba_0, .inl (k 0, 8, .inl o_41)), (ob_1, .inl (k 2, 1000, .inr (.inl o_42))), (tn, .inr (10, [.int tnv0, .int tnv1, .int tnv2, .ref tn_3, .ref tn_4, .ref tn_5, .ref tn_6, .int tnv7, .int tnv8, .ref tn_9, .ref tn_10, .int tnv11, .ref tn_12, .ref tn_13, .ref tn_14, .ref tn_15, .int tnv16, .ref tn_17, .ref tn_18, .ref tnt])), (tn_3, .inl (k 0, 10, .inl tng3)), (tn_4, .inl (k 0, 10, .inl tng4)), (tn_5, .inl (k 0, 10, .inl tng5)), (tn_6, .inl (k 0, 10, .inl tng6)), (tn_9, .inl (k 0, 4, .inl tng9)), (tn_10, .inl (k 0, 4, .inl tng10))]) hD hS hA [0, 1, 2, 3, 4, 5, 6, 7, 8, 9, 10] rfl
        refine va_callv (va_runV (C := RX3) (As := [.ref tn, .int p1, .int x_33, .int x_46, .long x_48, .int 2]) (rest := []) ⟨hx, hb, hml, hown, hts⟩ (c_X3_weighLanes_8 l D k ob tn p1 x_33 x_46 x_48 oba ob_1 oba_0 o_39 o_40 o_41 o_42 tnv0 tnv1 tnv2 tn_3 tn_4 tn_5 tn_6 tnv7 tnv8 tn_9 tn_10 tnv11 tn_12 tn_13 tn_14 tn_15 tnv16 tn_17 tn_18 tnt tng3 tng4 tng5 tng6 tng9 tng10 H.size (show 0 ≤ p1.toInt ∧ p1.toInt ≤ 7 from by omega) hw_44 (show 0 ≤ tnv0.toInt ∧ tnv0.toInt ≤ 8 from by omega) (show 0 ≤ tnv2.toInt ∧ tnv2.toInt ≤ 10 from by omega) (show 0 ≤ tnv8.toInt ∧ tnv8.toInt ≤ 4 from by omega) (show 0 ≤ tnv11.toInt ∧ tnv11.toInt ≤ 6 from by omega) (show 0 ≤ tnv16.toInt ∧ tnv16.toInt ≤ 2 from by omega) hp_tng3_0 hp_tng4_0 hp_tng5_0 hp_tng6_0 hp_tng9_0 hp_tng10_0) (cwV 6 hts (gV tw_5_151 tw_5_153 tw_p_34 tw_1_12 tw_5_154) rfl rfl rfl hdV_X3_weighLanes ⟨Nat.le_of_ble_eq_true rfl, Nat.le_of_ble_eq_true rfl⟩) (cz_V hK hPc hDc hN (ci := 3) (q0 := 0) rfl rfl [.ref tn, .int p1, .int x_33, .int x_46, .long x_48, .int 2]) rfl rfl hl.1 rfl (lv_room (Nat.le_of_ble_eq_true rfl)) dX3_weighLanes_165 ⟨Nat.le_of_ble_eq_true rfl, Nat.le_of_ble_eq_true rfl⟩) hS (fun q _ h => hFc q h) hFc (fun uZ tZ H1 locs ht hvm hw hB hz1 hk1 hS => ?_)
        obtain ⟨o_51, o_52, o_53, o_54⟩ := uZ
        obtain ⟨hP1, hK1, hD1⟩ := hB
        rw [ht] at hP1
        obtain ⟨hP, hD⟩ := va_join (wr := []) (w1 := [(ob, .inr (3, [.ref oba, .ref ob_1])), (oba, .inr (1, [.ref oba_0, .int o_51, .int o_52])), (oba_0, .inl (k 0, 8, .inl o_53)), (ob_1, .inl (k 2, 1000, .inr (.inl o_54))), (tn, .inr (10, [.int tnv0, .int tnv1, .int tnv2, .ref tn_3, .ref tn_4, .ref tn_5, .ref tn_6, .int tnv7, .int tnv8, .ref tn_9, .ref tn_10, .int tnv11, .ref tn_12, .ref tn_13, .ref tn_14, .ref tn_15, .int tnv16, .ref tn_17, .ref tn_18, .ref tnt])), (tn_3, .inl (k 0, 10, .inl tng3)), (tn_4, .inl (k 0, 10, .inl tng4)), (tn_5, .inl (k 0, 10, .inl tng5)), (tn_6, .inl (k 0, 10, .inl tng6)), (tn_9, .inl (k 0, 4, .inl tng9)), (tn_10, .inl (k 0, 4, .inl tng10))]) hP hD [0, 1, 2, 3, 4, 5, 6, 7, 8, 9, 10] [] rfl rfl (by decide) (by decide) hk1 hFc hP1 hD1
        clear hK1 hP1 hD1 hPc hDc hFc
        clear hk1 hz1 ht hvm
        have hP : va_P D vwCl [(ob, .inr (3, [.ref oba, .ref ob_1])), (oba, .inr (1, [.ref oba_0, .int o_51, .int o_52])), (oba_0, .inl (k 0, 8, .inl o_53)), (ob_1, .inl (k 2, 1000, .inr (.inl o_54))), (tn, .inr (10, [.int tnv0, .int tnv1, .int tnv2, .ref tn_3, .ref tn_4, .ref tn_5, .ref tn_6, .int tnv7, .int tnv8, .ref tn_9, .ref tn_10, .int tnv11, .ref tn_12, .ref tn_13, .ref tn_14, .ref tn_15, .int tnv16, .ref tn_17, .ref tn_18, .ref tnt])), (tn_3, .inl (k 0, 10, .inl tng3)), (tn_4, .inl (k 0, 10, .inl tng4)), (tn_5, .inl (k 0, 10, .inl tng5)), (tn_6, .inl (k 0, 10, .inl tng6)), (tn_9, .inl (k 0, 4, .inl tng9)), (tn_10, .inl (k 0, 4, .inl tng10))] H1 := hP
        have hD : va_D A [(ob, .inr (3, [.ref oba, .ref ob_1])), (oba, .inr (1, [.ref oba_0, .int o_51, .int o_52])), (oba_0, .inl (k 0, 8, .inl o_53)), (ob_1, .inl (k 2, 1000, .inr (.inl o_54))), (tn, .inr (10, [.int tnv0, .int tnv1, .int tnv2, .ref tn_3, .ref tn_4, .ref tn_5, .ref tn_6, .int tnv7, .int tnv8, .ref tn_9, .ref tn_10, .int tnv11, .ref tn_12, .ref tn_13, .ref tn_14, .ref tn_15, .int tnv16, .ref tn_17, .ref tn_18, .ref tnt])), (tn_3, .inl (k 0, 10, .inl tng3)), (tn_4, .inl (k 0, 10, .inl tng4)), (tn_5, .inl (k 0, 10, .inl tng5)), (tn_6, .inl (k 0, 10, .inl tng6)), (tn_9, .inl (k 0, 4, .inl tng9)), (tn_10, .inl (k 0, 4, .inl tng10))] := hD
        generalize H1 = H at hP hS ⊢
        have hw_55 : (PR 8 1 0 0 1000000 o_53) := hw
        have hw_56 := hw_55
        clear hw
        have hP9 := hP.sub (ws' := [(ob, .inr (3, [.ref oba, .ref ob_1])), (oba, .inr (1, [.ref oba_0, .int o_51, .int o_52])), (oba_0, .inl (k 0, 8, .inl o_53)), (ob_1, .inl (k 2, 1000, .inr (.inl o_54))), (tn, .inr (10, [.int tnv0, .int tnv1, .int tnv2, .ref tn_3, .ref tn_4, .ref tn_5, .ref tn_6, .int tnv7, .int tnv8, .ref tn_9, .ref tn_10, .int tnv11, .ref tn_12, .ref tn_13, .ref tn_14, .ref tn_15, .int tnv16, .ref tn_17, .ref tn_18, .ref tnt])), (tn_3, .inl (k 0, 10, .inl tng3)), (tn_4, .inl (k 0, 10, .inl tng4)), (tn_5, .inl (k 0, 10, .inl tng5)), (tn_6, .inl (k 0, 10, .inl tng6)), (tn_9, .inl (k 0, 4, .inl tng9)), (tn_10, .inl (k 0, 4, .inl tng10))]) [0, 1, 2, 3, 4, 5, 6, 7, 8, 9, 10] rfl
        have hD9 := hD.sub (ws' := [(ob, .inr (3, [.ref oba, .ref ob_1])), (oba, .inr (1, [.ref oba_0, .int o_51, .int o_52])), (oba_0, .inl (k 0, 8, .inl o_53)), (ob_1, .inl (k 2, 1000, .inr (.inl o_54))), (tn, .inr (10, [.int tnv0, .int tnv1, .int tnv2, .ref tn_3, .ref tn_4, .ref tn_5, .ref tn_6, .int tnv7, .int tnv8, .ref tn_9, .ref tn_10, .int tnv11, .ref tn_12, .ref tn_13, .ref tn_14, .ref tn_15, .int tnv16, .ref tn_17, .ref tn_18, .ref tnt])), (tn_3, .inl (k 0, 10, .inl tng3)), (tn_4, .inl (k 0, 10, .inl tng4)), (tn_5, .inl (k 0, 10, .inl tng5)), (tn_6, .inl (k 0, 10, .inl tng6)), (tn_9, .inl (k 0, 4, .inl tng9)), (tn_10, .inl (k 0, 4, .inl tng10))]) [0, 1, 2, 3, 4, 5, 6, 7, 8, 9, 10] (by decide) rfl
        exact W.vret hx hb hr (fun tZ ht hW => ⟨⟨(o_51, o_52, o_53, o_54), rfl, hw_56, by rw [ht]; exact hP9, va_K.moved hW.alike hK, hD9⟩, hS.F ht⟩) hS.2.2 dX3_weighLanes_168
  · skip
    have zh_11 : 1000 ≤ x_10.toInt := z_nlt h_11
    have hP9 := hP.sub (ws' := [(ob, .inr (3, [.ref oba, .ref ob_1])), (oba, .inr (1, [.ref oba_0, .int o_5, .int o_6])), (oba_0, .inl (k 0, 8, .inl o_7)), (ob_1, .inl (k 2, 1000, .inr (.inl obg1))), (tn, .inr (10, [.int tnv0, .int tnv1, .int tnv2, .ref tn_3, .ref tn_4, .ref tn_5, .ref tn_6, .int tnv7, .int tnv8, .ref tn_9, .ref tn_10, .int tnv11, .ref tn_12, .ref tn_13, .ref tn_14, .ref tn_15, .int tnv16, .ref tn_17, .ref tn_18, .ref tnt])), (tn_3, .inl (k 0, 10, .inl tng3)), (tn_4, .inl (k 0, 10, .inl tng4)), (tn_5, .inl (k 0, 10, .inl tng5)), (tn_6, .inl (k 0, 10, .inl tng6)), (tn_9, .inl (k 0, 4, .inl tng9)), (tn_10, .inl (k 0, 4, .inl tng10))]) [0, 3, 4, 1, 5, 6, 7, 8, 2, 9, 10] rfl
    have hD9 := hD.sub (ws' := [(ob, .inr (3, [.ref oba, .ref ob_1])), (oba, .inr (1, [.ref oba_0, .int o_5, .int o_6])), (oba_0, .inl (k 0, 8, .inl o_7)), (ob_1, .inl (k 2, 1000, .inr (.inl obg1))), (tn, .inr (10, [.int tnv0, .int tnv1, .int tnv2, .ref tn_3, .ref tn_4, .ref tn_5, .ref tn_6, .int tnv7, .int tnv8, .ref tn_9, .ref tn_10, .int tnv11, .ref tn_12, .ref tn_13, .ref tn_14, .ref tn_15, .int tnv16, .ref tn_17, .ref tn_18, .ref tnt])), (tn_3, .inl (k 0, 10, .inl tng3)), (tn_4, .inl (k 0, 10, .inl tng4)), (tn_5, .inl (k 0, 10, .inl tng5)), (tn_6, .inl (k 0, 10, .inl tng6)), (tn_9, .inl (k 0, 4, .inl tng9)), (tn_10, .inl (k 0, 4, .inl tng10))]) [0, 3, 4, 1, 5, 6, 7, 8, 2, 9, 10] (by decide) rfl
    exact W.vret hx hb hr (fun tZ ht hW => ⟨⟨(o_5, o_6, o_7, obg1), rfl, hw_9, by rw [ht]; exact hP9, va_K.moved hW.alike hK, hD9⟩, hS.F ht⟩) hS.2.2 dX3_weighLanes_33
set_option maxHeartbeats 4000000 in
set_option maxRecDepth 100000 in
theorem c_X3_weighLanes_10 (l : Launch) (D : va_G) (k : Nat → ClassId) (ob : Nat) (tn : Nat) (p1 : Int32) (p2 : Int32) (p3 : Int32) (p4 : Int64) (oba : Nat) (ob_1 : Nat) (oba_0 : Nat) (obav1 : Int32) (obav2 : Int32) (obag0 : Nat → Int32) (obg1 : Nat → Int64) (tnv0 : Int32) (tnv1 : Int32) (tnv2 : Int32) (tn_3 : Nat) (tn_4 : Nat) (tn_5 : Nat) (tn_6 : Nat) (tnv7 : Int32) (tnv8 : Int32) (tn_9 : Nat) (tn_10 : Nat) (tnv11 : Int32) (tn_12 : Nat) (tn_13 : Nat) (tn_14 : Nat) (tn_15 : Nat) (tnv16 : Int32) (tn_17 : Nat) (tn_18 : Nat) (tnt : Nat) (tng3 : Nat → Int32) (tng4 : Nat → Int32) (tng5 : Nat → Int32) (tng6 : Nat → Int32) (tng9 : Nat → Int32) (tng10 : Nat → Int32) (sz : Nat) (h_p1 : 0 ≤ p1.toInt ∧ p1.toInt ≤ 7) (hp_obag0_0 : PR 8 1 0 0 1000000 obag0) (h_tnv0 : 0 ≤ tnv0.toInt ∧ tnv0.toInt ≤ 8) (h_tnv2 : 0 ≤ tnv2.toInt ∧ tnv2.toInt ≤ 10) (h_tnv8 : 0 ≤ tnv8.toInt ∧ tnv8.toInt ≤ 4) (h_tnv11 : 0 ≤ tnv11.toInt ∧ tnv11.toInt ≤ 6) (h_tnv16 : 0 ≤ tnv16.toInt ∧ tnv16.toInt ≤ 2) (hp_tng3_0 : PR 10 1 0 0 7 tng3) (hp_tng4_0 : PR 10 1 0 0 7 tng4) (hp_tng5_0 : PR 10 1 0 0 60 tng5) (hp_tng6_0 : PR 10 1 0 0 10 tng6) (hp_tng9_0 : PR 4 1 0 0 7 tng9) (hp_tng10_0 : PR 4 1 0 0 99 tng10) : Met l yX3_weighLanes (ww yX3_weighLanes cX3_weighLanes 14 none) ({ frames := 14, cells := 0, slots := 0, locals := 430 }) (Pre0 D k [(ob, .inr (3, [.ref oba, .ref ob_1])), (oba, .inr (1, [.ref oba_0, .int obav1, .int obav2])), (oba_0, .inl (k 0, 8, .inl obag0)), (ob_1, .inl (k 2, 1000, .inr (.inl obg1))), (tn, .inr (10, [.int tnv0, .int tnv1, .int tnv2, .ref tn_3, .ref tn_4, .ref tn_5, .ref tn_6, .int tnv7, .int tnv8, .ref tn_9, .ref tn_10, .int tnv11, .ref tn_12, .ref tn_13, .ref tn_14, .ref tn_15, .int tnv16, .ref tn_17, .ref tn_18, .ref tnt])), (tn_3, .inl (k 0, 10, .inl tng3)), (tn_4, .inl (k 0, 10, .inl tng4)), (tn_5, .inl (k 0, 10, .inl tng5)), (tn_6, .inl (k 0, 10, .inl tng6)), (tn_9, .inl (k 0, 4, .inl tng9)), (tn_10, .inl (k 0, 4, .inl tng10))] sz [.ref ob, .ref tn, .int p1, .int p2, .int p3, .long p4, .int 0]) (va_Qv (fun (u : Int32 × Int32 × (Nat → Int32) × (Nat → Int64)) => match u with | (obav1z, obav2z, obag0z, obg1z) => (PR 8 1 0 0 1000000 obag0z)) (fun (u : Int32 × Int32 × (Nat → Int32) × (Nat → Int64)) tZ => match u with | (obav1z, obav2z, obag0z, obg1z) => Bw D k (va_A [(ob, .inr (3, [.ref oba, .ref ob_1])), (oba, .inr (1, [.ref oba_0, .int obav1, .int obav2])), (oba_0, .inl (k 0, 8, .inl obag0)), (ob_1, .inl (k 2, 1000, .inr (.inl obg1))), (tn, .inr (10, [.int tnv0, .int tnv1, .int tnv2, .ref tn_3, .ref tn_4, .ref tn_5, .ref tn_6, .int tnv7, .int tnv8, .ref tn_9, .ref tn_10, .int tnv11, .ref tn_12, .ref tn_13, .ref tn_14, .ref tn_15, .int tnv16, .ref tn_17, .ref tn_18, .ref tnt])), (tn_3, .inl (k 0, 10, .inl tng3)), (tn_4, .inl (k 0, 10, .inl tng4)), (tn_5, .inl (k 0, 10, .inl tng5)), (tn_6, .inl (k 0, 10, .inl tng6)), (tn_9, .inl (k 0, 4, .inl tng9)), (tn_10, .inl (k 0, 4, .inl tng10))] sz) [(ob, .inr (3, [.ref oba, .ref ob_1])), (oba, .inr (1, [.ref oba_0, .int obav1z, .int obav2z])), (oba_0, .inl (k 0, 8, .inl obag0z)), (ob_1, .inl (k 2, 1000, .inr (.inl obg1z))), (tn, .inr (10, [.int tnv0, .int tnv1, .int tnv2, .ref tn_3, .ref tn_4, .ref tn_5, .ref tn_6, .int tnv7, .int tnv8, .ref tn_9, .ref tn_10, .int tnv11, .ref tn_12, .ref tn_13, .ref tn_14, .ref tn_15, .int tnv16, .ref tn_17, .ref tn_18, .ref tnt])), (tn_3, .inl (k 0, 10, .inl tng3)), (tn_4, .inl (k 0, 10, .inl tng4)), (tn_5, .inl (k 0, 10, .inl tng5)), (tn_6, .inl (k 0, 10, .inl tng6)), (tn_9, .inl (k 0, 4, .inl tng9)), (tn_10, .inl (k 0, 4, .inl tng10))] tZ) (va_A [(ob, .inr (3, [.ref oba, .ref ob_1])), (oba, .inr (1, [.ref oba_0, .int obav1, .int obav2])), (oba_0, .inl (k 0, 8, .inl obag0)), (ob_1, .inl (k 2, 1000, .inr (.inl obg1))), (tn, .inr (10, [.int tnv0, .int tnv1, .int tnv2, .ref tn_3, .ref tn_4, .ref tn_5, .ref tn_6, .int tnv7, .int tnv8, .ref tn_9, .ref tn_10, .int tnv11, .ref tn_12, .ref tn_13, .ref tn_14, .ref tn_15, .int tnv16, .ref tn_17, .ref tn_18, .ref tnt])), (tn_3, .inl (k 0, 10, .inl tng3)), (tn_4, .inl (k 0, 10, .inl tng4)), (tn_5, .inl (k 0, 10, .inl tng5)), (tn_6, .inl (k 0, 10, .inl tng6)), (tn_9, .inl (k 0, 4, .inl tng9)), (tn_10, .inl (k 0, 4, .inl tng10))] sz)) 0 0 (va_A [(ob, .inr (3, [.ref oba, .ref ob_1])), (oba, .inr (1, [.ref oba_0, .int obav1, .int obav2])), (oba_0, .inl (k 0, 8, .inl obag0)), (ob_1, .inl (k 2, 1000, .inr (.inl obg1))), (tn, .inr (10, [.int tnv0, .int tnv1, .int tnv2, .ref tn_3, .ref tn_4, .ref tn_5, .ref tn_6, .int tnv7, .int tnv8, .ref tn_9, .ref tn_10, .int tnv11, .ref tn_12, .ref tn_13, .ref tn_14, .ref tn_15, .int tnv16, .ref tn_17, .ref tn_18, .ref tnt])), (tn_3, .inl (k 0, 10, .inl tng3)), (tn_4, .inl (k 0, 10, .inl tng4)), (tn_5, .inl (k 0, 10, .inl tng5)), (tn_6, .inl (k 0, 10, .inl tng6)), (tn_9, .inl (k 0, 4, .inl tng9)), (tn_10, .inl (k 0, 4, .inl tng10))] sz) := by
  refine Met.ofW (cc := cX3_weighLanes) (maxL := 14) (ret := none) (by decide +kernel) rfl ?_
  intro p e s m args below meth c s₁ B hml hv
  obtain ⟨rfl, hsz, hP, hK, hD0, hN⟩ := hv
  have hx := B.exec
  have hb := B.bytes
  have hr := B.returns
  have hts : ∀ w ∈ TT, w.before _ s = true := fun w h => atoms_spec (ws := ww yX3_weighLanes cX3_weighLanes 14 none) B.pre w (List.mem_cons_of_mem _ h)
  have hown : s.vm.findClass RX3 = some m.cls := findClass_of_methodNamed B.named
  have hlocks := B.notSynchronized
  subst hsz
  have hD := hD0.self (sz := s.heap.size)
  generalize hAe : va_A [(ob, .inr (3, [.ref oba, .ref ob_1])), (oba, .inr (1, [.ref oba_0, .int obav1, .int obav2])), (oba_0, .inl (k 0, 8, .inl obag0)), (ob_1, .inl (k 2, 1000, .inr (.inl obg1))), (tn, .inr (10, [.int tnv0, .int tnv1, .int tnv2, .ref tn_3, .ref tn_4, .ref tn_5, .ref tn_6, .int tnv7, .int tnv8, .ref tn_9, .ref tn_10, .int tnv11, .ref tn_12, .ref tn_13, .ref tn_14, .ref tn_15, .int tnv16, .ref tn_17, .ref tn_18, .ref tnt])), (tn_3, .inl (k 0, 10, .inl tng3)), (tn_4, .inl (k 0, 10, .inl tng4)), (tn_5, .inl (k 0, 10, .inl tng5)), (tn_6, .inl (k 0, 10, .inl tng6)), (tn_9, .inl (k 0, 4, .inl tng9)), (tn_10, .inl (k 0, 4, .inl tng10))] s.heap.size = A at hD ⊢
  have hA : ∀ q : Nat, s.heap.size ≤ q → A q := fun q h => by rw [← hAe]; exact Or.inr h
  have hS : va_S A s.heap s.heap [] := va_S.rf
  have hl := lv_entry ([.ref ob, .ref tn, .int p1, .int p2, .int p3, .long p4, .int 0]) (n := 14) (Nat.le_of_ble_eq_true rfl)
  rw [lg_entry_eq]
  generalize (lg_sl ([.ref ob, .ref tn, .int p1, .int p2, .int p3, .long p4, .int 0]) ++ List.replicate (14 - (lg_sl ([.ref ob, .ref tn, .int p1, .int p2, .int p3, .long p4, .int 0])).length) Slot.unset).toArray = ls at hl ⊢
  have hl : lv_has ls 14 [(0, .ref ob), (1, .ref tn), (2, .int p1), (3, .int p2), (4, .int p3), (5, .long p4), (7, .int 0)] := hl
  refine lv_aload_n hx hb dX3_weighLanes_0 rfl (lv_at hl 0 rfl) ?_
  refine va_get (D := D) (ci := 3) (v := .ref oba) (C := RX3) (T := TX3) (N := 2) hx hb hts iT_X3 hown hK hP 0 rfl rfl 0 (by decide) (hts _ tw_2_163) (fun _ h9 => h9) rfl dX3_weighLanes_1 ?_
  refine lv_aload_n hx hb dX3_weighLanes_4 rfl (lv_at hl 1 rfl) ?_
  refine lv_aload_n hx hb dX3_weighLanes_5 rfl (lv_at hl 1 rfl) ?_
  have hPc := hP.sub (ws' := [(tn, .inr (10, [.int tnv0, .int tnv1, .int tnv2, .ref tn_3, .ref tn_4, .ref tn_5, .ref tn_6, .int tnv7, .int tnv8, .ref tn_9, .ref tn_10, .int tnv11, .ref tn_12, .ref tn_13, .ref tn_14, .ref tn_15, .int tnv16, .ref tn_17, .ref tn_18, .ref tnt]))]) [4] rfl
  have hDc := hD.sub (ws' := [(tn, .inr (10, [.int tnv0, .int tnv1, .int tnv2, .ref tn_3, .ref tn_4, .ref tn_5, .ref tn_6, .int tnv7, .int tnv8, .ref tn_9, .ref tn_10, .int tnv11, .ref tn_12, .ref tn_13, .ref tn_14, .ref tn_15, .int tnv16, .ref tn_17, .ref tn_18, .ref tnt]))]) [4] (by decide) rfl
  have hFc := va_free (wc := [(tn, .inr (10, [.int tnv0, .int tnv1, .int tnv2, .ref tn_3, .ref tn_4, .ref tn_5, .ref tn_6, .int tnv7, .int tnv8, .ref tn_9, .ref tn_10, .int tnv11, .ref tn_12, .ref tn_13, .ref tn_14, .ref tn_15, .int tnv16, .ref tn_17, .ref tn_18, .ref tnt]))]) hD hS hA [4] rfl
  refine va_calli (va_runV (C := RX10) (As := []) (rest := [.ref tn, .ref oba]) ⟨hx, hb, hml, hown, hts⟩ (c_X10_openLanes l D k tn tnv0 tnv1 tnv2 tn_3 tn_4 tn_5 tn_6 tnv7 tnv8 tn_9 tn_10 tnv11 tn_12 tn_13 tn_14 tn_15 tnv16 tn_17 tn_18 tnt s.heap.size (show 0 ≤ tnv0.toInt ∧ tnv0.toInt ≤ 8 from by omega) (show 0 ≤ tnv2.toInt ∧ tnv2.toInt ≤ 10 from by omega) (show 0 ≤ tnv8.toInt ∧ tnv8.toInt ≤ 4 from by omega) (show 0 ≤ tnv11.toInt ∧ tnv11.toInt ≤ 6 from by omega) (show 0 ≤ tnv16.toInt ∧ tnv16.toInt ≤ 2 from by omega)) (cwV 0 hts (gV tw_5_155 tw_3_180 tw_3_181 tw_1_3 tw_3_182) rfl rfl rfl hdV_X10_openLanes ⟨Nat.le_of_ble_eq_true rfl, Nat.le_of_ble_eq_true rfl⟩) (cz_V hK hPc hDc hN (ci := 10) (q0 := 0) rfl rfl []) rfl rfl hl.1 rfl (lv_room (Nat.le_of_ble_eq_true rfl)) dX3_weighLanes_6 ⟨Nat.le_of_ble_eq_true rfl, Nat.le_of_ble_eq_true rfl⟩) hS (fun q _ h => hFc q h) hFc (fun r_1 uZ tZ H1 locs ht hvm hw hB hz1 hk1 hS => ?_)
  obtain ⟨hP1, hK1, hD1⟩ := hB
  rw [ht] at hP1
  obtain ⟨hP, hD⟩ := va_join (wr := [(ob, .inr (3, [.ref oba, .ref ob_1])), (oba, .inr (1, [.ref oba_0, .int obav1, .int obav2])), (oba_0, .inl (k 0, 8, .inl obag0)), (ob_1, .inl (k 2, 1000, .inr (.inl obg1))), (tn_3, .inl (k 0, 10, .inl tng3)), (tn_4, .inl (k 0, 10, .inl tng4)), (tn_5, .inl (k 0, 10, .inl tng5)), (tn_6, .inl (k 0, 10, .inl tng6)), (tn_9, .inl (k 0, 4, .inl tng9)), (tn_10, .inl (k 0, 4, .inl tng10))]) (w1 := [(tn, .inr (10, [.int tnv0, .int tnv1, .int tnv2, .ref tn_3, .ref tn_4, .ref tn_5, .ref tn_6, .int tnv7, .int tnv8, .ref tn_9, .ref tn_10, .int tnv11, .ref tn_12, .ref tn_13, .ref tn_14, .ref tn_15, .int tnv16, .ref tn_17, .ref tn_18, .ref tnt]))]) hP hD [4] [0, 1, 2, 3, 5, 6, 7, 8, 9, 10] rfl rfl (by decide) (by decide) hk1 hFc hP1 hD1
  clear hK1 hP1 hD1 hPc hDc hFc
  clear hk1 hz1 ht hvm
  have hP : va_P D vwCl [(ob, .inr (3, [.ref oba, .ref ob_1])), (oba, .inr (1, [.ref oba_0, .int obav1, .int obav2])), (oba_0, .inl (k 0, 8, .inl obag0)), (ob_1, .inl (k 2, 1000, .inr (.inl obg1))), (tn_3, .inl (k 0, 10, .inl tng3)), (tn_4, .inl (k 0, 10, .inl tng4)), (tn_5, .inl (k 0, 10, .inl tng5)), (tn_6, .inl (k 0, 10, .inl tng6)), (tn_9, .inl (k 0, 4, .inl tng9)), (tn_10, .inl (k 0, 4, .inl tng10)), (tn, .inr (10, [.int tnv0, .int tnv1, .int tnv2, .ref tn_3, .ref tn_4, .ref tn_5, .ref tn_6, .int tnv7, .int tnv8, .ref tn_9, .ref tn_10, .int tnv11, .ref tn_12, .ref tn_13, .ref tn_14, .ref tn_15, .int tnv16, .ref tn_17, .ref tn_18, .ref tnt]))] H1 := hP
  have hD : va_D A [(ob, .inr (3, [.ref oba, .ref ob_1])), (oba, .inr (1, [.ref oba_0, .int obav1, .int obav2])), (oba_0, .inl (k 0, 8, .inl obag0)), (ob_1, .inl (k 2, 1000, .inr (.inl obg1))), (tn_3, .inl (k 0, 10, .inl tng3)), (tn_4, .inl (k 0, 10, .inl tng4)), (tn_5, .inl (k 0, 10, .inl tng5)), (tn_6, .inl (k 0, 10, .inl tng6)), (tn_9, .inl (k 0, 4, .inl tng9)), (tn_10, .inl (k 0, 4, .inl tng10)), (tn, .inr (10, [.int tnv0, .int tnv1, .int tnv2, .ref tn_3, .ref tn_4, .ref tn_5, .ref tn_6, .int tnv7, .int tnv8, .ref tn_9, .ref tn_10, .int tnv11, .ref tn_12, .ref tn_13, .ref tn_14, .ref tn_15, .int tnv16, .ref tn_17, .ref tn_18, .ref tnt]))] := hD
  generalize H1 = H at hP hS ⊢
  have hw_2 : (0 ≤ r_1.toInt ∧ r_1.toInt ≤ 1023) := hw
  have hw_3 := hw_2
  clear hw
  refine lv_iload hx hb dX3_weighLanes_9 (lv_at hl 4 rfl) ?_
  have hPc := hP.sub (ws' := [(oba, .inr (1, [.ref oba_0, .int obav1, .int obav2])), (oba_0, .inl (k 0, 8, .inl obag0)), (tn, .inr (10, [.int tnv0, .int tnv1, .int tnv2, .ref tn_3, .ref tn_4, .ref tn_5, .ref tn_6, .int tnv7, .int tnv8, .ref tn_9, .ref tn_10, .int tnv11, .ref tn_12, .ref tn_13, .ref tn_14, .ref tn_15, .int tnv16, .ref tn_17, .ref tn_18, .ref tnt])), (tn_3, .inl (k 0, 10, .inl tng3)), (tn_4, .inl (k 0, 10, .inl tng4)), (tn_5, .inl (k 0, 10, .inl tng5)), (tn_9, .inl (k 0, 4, .inl tng9)), (tn_10, .inl (k 0, 4, .inl tng10))]) [1, 2, 10, 4, 5, 6, 8, 9] rfl
  have hDc := hD.sub (ws' := [(oba, .inr (1, [.ref oba_0, .int obav1, .int obav2])), (oba_0, .inl (k 0, 8, .inl obag0)), (tn, .inr (10, [.int tnv0, .int tnv1, .int tnv2, .ref tn_3, .ref tn_4, .ref tn_5, .ref tn_6, .int tnv7, .int tnv8, .ref tn_9, .ref tn_10, .int tnv11, .ref tn_12, .ref tn_13, .ref tn_14, .ref tn_15, .int tnv16, .ref tn_17, .ref tn_18, .ref tnt])), (tn_3, .inl (k 0, 10, .inl tng3)), (tn_4, .inl (k 0, 10, .inl tng4)), (tn_5, .inl (k 0, 10, .inl tng5)), (tn_9, .inl (k 0, 4, .inl tng9)), (tn_10, .inl (k 0, 4, .inl tng10))]) [1, 2, 10, 4, 5, 6, 8, 9] (by decide) rfl
  have hFc := va_free (wc := [(oba, .inr (1, [.ref oba_0, .int obav1, .int obav2])), (oba_0, .inl (k 0, 8, .inl obag0)), (tn, .inr (10, [.int tnv0, .int tnv1, .int tnv2, .ref tn_3, .ref tn_4, .ref tn_5, .ref tn_6, .int tnv7, .int tnv8, .ref tn_9, .ref tn_10, .int tnv11, .ref tn_12, .ref tn_13, .ref tn_14, .ref tn_15, .int tnv16, .ref tn_17, .ref tn_18, .ref tnt])), (tn_3, .inl (k 0, 10, .inl tng3)), (tn_4, .inl (k 0, 10, .inl tng4)), (tn_5, .inl (k 0, 10, .inl tng5)), (tn_9, .inl (k 0, 4, .inl tng9)), (tn_10, .inl (k 0, 4, .inl tng10))]) hD hS hA [1, 2, 10, 4, 5, 6, 8, 9] rfl
  refine va_callv (va_runV (C := RX1) (As := [.ref tn, .int r_1, .int p3]) (rest := []) ⟨hx, hb, hml, hown, hts⟩ (c_X1_fall l D k oba tn r_1 p3 oba_0 obav1 obav2 obag0 tnv0 tnv1 tnv2 tn_3 tn_4 tn_5 tn_6 tnv7 tnv8 tn_9 tn_10 tnv11 tn_12 tn_13 tn_14 tn_15 tnv16 tn_17 tn_18 tnt tng3 tng4 tng5 tng9 tng10 H.size hp_obag0_0 (show 0 ≤ tnv0.toInt ∧ tnv0.toInt ≤ 8 from by omega) (show 0 ≤ tnv2.toInt ∧ tnv2.toInt ≤ 10 from by omega) (show 0 ≤ tnv8.toInt ∧ tnv8.toInt ≤ 4 from by omega) (show 0 ≤ tnv11.toInt ∧ tnv11.toInt ≤ 6 from by omega) (show 0 ≤ tnv16.toInt ∧ tnv16.toInt ≤ 2 from by omega) hp_tng3_0 hp_tng4_0 hp_tng5_0 hp_tng9_0 hp_tng10_0) (cwV 3 hts (gV tw_5_156 tw_3_184 tw_3_185 tw_1_6 tw_3_186) rfl rfl rfl hdV_X1_fall ⟨Nat.le_of_ble_eq_true rfl, Nat.le_of_ble_eq_true rfl⟩) (cz_V hK hPc hDc hN (ci := 1) (q0 := 0) rfl rfl [.ref tn, .int r_1, .int p3]) rfl rfl hl.1 rfl (lv_room (Nat.le_of_ble_eq_true rfl)) dX3_weighLanes_11 ⟨Nat.le_of_ble_eq_true rfl, Nat.le_of_ble_eq_true rfl⟩) hS (fun q _ h => hFc q h) hFc (fun uZ tZ H1 locs ht hvm hw hB hz1 hk1 hS => ?_)
  obtain ⟨o_5, o_6, o_7⟩ := uZ
  obtain ⟨hP1, hK1, hD1⟩ := hB
  rw [ht] at hP1
  obtain ⟨hP, hD⟩ := va_join (wr := [(ob, .inr (3, [.ref oba, .ref ob_1])), (ob_1, .inl (k 2, 1000, .inr (.inl obg1))), (tn_6, .inl (k 0, 10, .inl tng6))]) (w1 := [(oba, .inr (1, [.ref oba_0, .int o_5, .int o_6])), (oba_0, .inl (k 0, 8, .inl o_7)), (tn, .inr (10, [.int tnv0, .int tnv1, .int tnv2, .ref tn_3, .ref tn_4, .ref tn_5, .ref tn_6, .int tnv7, .int tnv8, .ref tn_9, .ref tn_10, .int tnv11, .ref tn_12, .ref tn_13, .ref tn_14, .ref tn_15, .int tnv16, .ref tn_17, .ref tn_18, .ref tnt])), (tn_3, .inl (k 0, 10, .inl tng3)), (tn_4, .inl (k 0, 10, .inl tng4)), (tn_5, .inl (k 0, 10, .inl tng5)), (tn_9, .inl (k 0, 4, .inl tng9)), (tn_10, .inl (k 0, 4, .inl tng10))]) hP hD [1, 2, 10, 4, 5, 6, 8, 9] [0, 3, 7] rfl rfl (by decide) (by decide) hk1 hFc hP1 hD1
  clear hK1 hP1 hD1 hPc hDc hFc
  clear hk1 hz1 ht hvm
  have hP : va_P D vwCl [(ob, .inr (3, [.ref oba, .ref ob_1])), (ob_1, .inl (k 2, 1000, .inr (.inl obg1))), (tn_6, .inl (k 0, 10, .inl tng6)), (oba, .inr (1, [.ref oba_0, .int o_5, .int o_6])), (oba_0, .inl (k 0, 8, .inl o_7)), (tn, .inr (10, [.int tnv0, .int tnv1, .int tnv2, .ref tn_3, .ref tn_4, .ref tn_5, .ref tn_6, .int tnv7, .int tnv8, .ref tn_9, .ref tn_10, .int tnv11, .ref tn_12, .ref tn_13, .ref tn_14, .ref tn_15, .int tnv16, .ref tn_17, .ref tn_18, .ref tnt])), (tn_3, .inl (k 0, 10, .inl tng3)), (tn_4, .inl (k 0, 10, .inl tng4)), (tn_5, .inl (k 0, 10, .inl tng5)), (tn_9, .inl (k 0, 4, .inl tng9)), (tn_10, .inl (k 0, 4, .inl tng10))] H1 := hP
  have hD : va_D A [(ob, .inr (3, [.ref oba, .ref ob_1])), (ob_1, .inl (k 2, 1000, .inr (.inl obg1))), (tn_6, .inl (k 0, 10, .inl tng6)), (oba, .inr (1, [.ref oba_0, .int o_5, .int o_6])), (oba_0, .inl (k 0, 8, .inl o_7)), (tn, .inr (10, [.int tnv0, .int tnv1, .int tnv2, .ref tn_3, .ref tn_4, .ref tn_5, .ref tn_6, .int tnv7, .int tnv8, .ref tn_9, .ref tn_10, .int tnv11, .ref tn_12, .ref tn_13, .ref tn_14, .ref tn_15, .int tnv16, .ref tn_17, .ref tn_18, .ref tnt])), (tn_3, .inl (k 0, 10, .inl tng3)), (tn_4, .inl (k 0, 10, .inl tng4)), (tn_5, .inl (k 0, 10, .inl tng5)), (tn_9, .inl (k 0, 4, .inl tng9)), (tn_10, .inl (k 0, 4, .inl tng10))] := hD
  generalize H1 = H at hP hS ⊢
  have hw_8 : (PR 8 1 0 0 1000000 o_7) := hw
  have hw_9 := hw_8
  clear hw
  refine lv_aload_n hx hb dX3_weighLanes_14 rfl (lv_at hl 0 rfl) ?_
  refine va_get (D := D) (ci := 3) (v := .ref oba) (C := RX3) (T := TX3) (N := 2) hx hb hts iT_X3 hown hK hP 0 rfl rfl 0 (by decide) (hts _ tw_2_163) (fun _ h9 => h9) rfl dX3_weighLanes_15 ?_
  refine va_get (D := D) (ci := 1) (v := .ref oba_0) (C := RX1) (T := TX1) (N := 3) hx hb hts iT_X1 hown hK hP 3 rfl rfl 0 (by decide) (hts _ tw_2_21) (fun _ h9 => h9) rfl dX3_weighLanes_18 ?_
  refine lv_iload_n hx hb dX3_weighLanes_21 rfl (lv_at hl 2 rfl) ?_
  refine va_iald hx hb hK hP 4 0 rfl rfl (z_in (by omega) (by omega)) dX3_weighLanes_22 ?_
  refine lv_topi (fun x_10 ex_10 => ?_)
  have zx_10r0 : 0 ≤ x_10.toInt ∧ x_10.toInt ≤ 1000000 := by rw [ex_10]; exact PR.ld hw_9 (by omega) (by omega) (by omega)
  refine lv_istore (lv' := [(8, .int x_10), (0, .ref ob), (1, .ref tn), (2, .int p1), (3, .int p2), (4, .int p3), (5, .long p4), (7, .int 0)]) hx hb dX3_weighLanes_23 hl (by decide) rfl (fun ls hl => ?_)
  refine lv_iload hx hb dX3_weighLanes_25 (lv_at hl 0 rfl) ?_
  refine lv_sipush (v := 1000) hx hb dX3_weighLanes_27 (by decide) ?_
  refine lv_icmp_lt (tgt := 34) hx hb dX3_weighLanes_30 (by decide) (fun h_11 => ?_) (fun h_11 => ?_)
  · skip
    have zh_11 : x_10.toInt < 1000 := z_lt h_11
    refine lv_aload_n hx hb dX3_weighLanes_34 rfl (lv_at hl 1 rfl) ?_
    refine va_get (D := D) (ci := 3) (v := .ref oba) (C := RX3) (T := TX3) (N := 2) hx hb hts iT_X3 hown hK hP 0 rfl rfl 0 (by decide) (hts _ tw_2_163) (fun _ h9 => h9) rfl dX3_weighLanes_35 ?_
    refine lv_aload_n hx hb dX3_weighLanes_38 rfl (lv_at hl 2 rfl) ?_
    refine lv_iload_n hx hb dX3_weighLanes_39 rfl (lv_at hl 3 rfl) ?_
    have hPc := hP.sub (ws' := [(oba, .inr (1, [.ref oba_0, .int o_5, .int o_6])), (oba_0, .inl (k 0, 8, .inl o_7)), (tn, .inr (10, [.int tnv0, .int tnv1, .int tnv2, .ref tn_3, .ref tn_4, .ref tn_5, .ref tn_6, .int tnv7, .int tnv8, .ref tn_9, .ref tn_10, .int tnv11, .ref tn_12, .ref tn_13, .ref tn_14, .ref tn_15, .int tnv16, .ref tn_17, .ref tn_18, .ref tnt])), (tn_3, .inl (k 0, 10, .inl tng3)), (tn_4, .inl (k 0, 10, .inl tng4)), (tn_5, .inl (k 0, 10, .inl tng5)), (tn_9, .inl (k 0, 4, .inl tng9)), (tn_10, .inl (k 0, 4, .inl tng10))]) [3, 4, 5, 6, 7, 8, 9, 10] rfl
    have hDc := hD.sub (ws' := [(oba, .inr (1, [.ref oba_0, .int o_5, .int o_6])), (oba_0, .inl (k 0, 8, .inl o_7)), (tn, .inr (10, [.int tnv0, .int tnv1, .int tnv2, .ref tn_3, .ref tn_4, .ref tn_5, .ref tn_6, .int tnv7, .int tnv8, .ref tn_9, .ref tn_10, .int tnv11, .ref tn_12, .ref tn_13, .ref tn_14, .ref tn_15, .int tnv16, .ref tn_17, .ref tn_18, .ref tnt])), (tn_3, .inl (k 0, 10, .inl tng3)), (tn_4, .inl (k 0, 10, .inl tng4)), (tn_5, .inl (k 0, 10, .inl tng5)), (tn_9, .inl (k 0, 4, .inl tng9)), (tn_10, .inl (k 0, 4, .inl tng10))]) [3, 4, 5, 6, 7, 8, 9, 10] (by decide) rfl
    have hFc := va_free (wc := [(oba, .inr (1, [.ref oba_0, .int o_5, .int o_6])), (oba_0, .inl (k 0, 8, .inl o_7)), (tn, .inr (10, [.int tnv0, .int tnv1, .int tnv2, .ref tn_3, .ref tn_4, .ref tn_5, .ref tn_6, .int tnv7, .int tnv8, .ref tn_9, .ref tn_10, .int tnv11, .ref tn_12, .ref tn_13, .ref tn_14, .ref tn_15, .int tnv16, .ref tn_17, .ref tn_18, .ref tnt])), (tn_3, .inl (k 0, 10, .inl tng3)), (tn_4, .inl (k 0, 10, .inl tng4)), (tn_5, .inl (k 0, 10, .inl tng5)), (tn_9, .inl (k 0, 4, .inl tng9)), (tn_10, .inl (k 0, 4, .inl tng10))]) hD hS hA [3, 4, 5, 6, 7, 8, 9, 10] rfl
    refine va_calli (va_runV (C := RX1) (As := [.ref tn, .int p1]) (rest := []) ⟨hx, hb, hml, hown, hts⟩ (c_X1_wayTo l D k oba tn p1 oba_0 o_5 o_6 o_7 tnv0 tnv1 tnv2 tn_3 tn_4 tn_5 tn_6 tnv7 tnv8 tn_9 tn_10 tnv11 tn_12 tn_13 tn_14 tn_15 tnv16 tn_17 tn_18 tnt tng3 tng4 tng5 tng9 tng10 H.size (show 0 ≤ p1.toInt ∧ p1.toInt ≤ 7 from by omega) hw_9 (show 0 ≤ tnv0.toInt ∧ tnv0.toInt ≤ 8 from by omega) (show 0 ≤ tnv2.toInt ∧ tnv2.toInt ≤ 10 from by omega) (show 0 ≤ tnv8.toInt ∧ tnv8.toInt ≤ 4 from by omega) (show 0 ≤ tnv11.toInt ∧ tnv11.toInt ≤ 6 from by omega) (show 0 ≤ tnv16.toInt ∧ tnv16.toInt ≤ 2 from by omega) hp_tng3_0 hp_tng4_0 hp_tng5_0 hp_tng9_0 hp_tng10_0) (cwV 2 hts (gV tw_5_157 tw_4_96 tw_4_97 tw_1_6 tw_4_98) rfl rfl rfl hdV_X1_wayTo ⟨Nat.le_of_ble_eq_true rfl, Nat.le_of_ble_eq_true rfl⟩) (cz_V hK hPc hDc hN (ci := 1) (q0 := 0) rfl rfl [.ref tn, .int p1]) rfl rfl hl.1 rfl (lv_room (Nat.le_of_ble_eq_true rfl)) dX3_weighLanes_40 ⟨Nat.le_of_ble_eq_true rfl, Nat.le_of_ble_eq_true rfl⟩) hS (fun q _ h => hFc q h) hFc (fun r_12 uZ tZ H1 locs ht hvm hw hB hz1 hk1 hS => ?_)
    obtain ⟨hP1, hK1, hD1⟩ := hB
    rw [ht] at hP1
    obtain ⟨hP, hD⟩ := va_join (wr := [(ob, .inr (3, [.ref oba, .ref ob_1])), (ob_1, .inl (k 2, 1000, .inr (.inl obg1))), (tn_6, .inl (k 0, 10, .inl tng6))]) (w1 := [(oba, .inr (1, [.ref oba_0, .int o_5, .int o_6])), (oba_0, .inl (k 0, 8, .inl o_7)), (tn, .inr (10, [.int tnv0, .int tnv1, .int tnv2, .ref tn_3, .ref tn_4, .ref tn_5, .ref tn_6, .int tnv7, .int tnv8, .ref tn_9, .ref tn_10, .int tnv11, .ref tn_12, .ref tn_13, .ref tn_14, .ref tn_15, .int tnv16, .ref tn_17, .ref tn_18, .ref tnt])), (tn_3, .inl (k 0, 10, .inl tng3)), (tn_4, .inl (k 0, 10, .inl tng4)), (tn_5, .inl (k 0, 10, .inl tng5)), (tn_9, .inl (k 0, 4, .inl tng9)), (tn_10, .inl (k 0, 4, .inl tng10))]) hP hD [3, 4, 5, 6, 7, 8, 9, 10] [0, 1, 2] rfl rfl (by decide) (by decide) hk1 hFc hP1 hD1
    clear hK1 hP1 hD1 hPc hDc hFc
    clear hk1 hz1 ht hvm
    have hP : va_P D vwCl [(ob, .inr (3, [.ref oba, .ref ob_1])), (ob_1, .inl (k 2, 1000, .inr (.inl obg1))), (tn_6, .inl (k 0, 10, .inl tng6)), (oba, .inr (1, [.ref oba_0, .int o_5, .int o_6])), (oba_0, .inl (k 0, 8, .inl o_7)), (tn, .inr (10, [.int tnv0, .int tnv1, .int tnv2, .ref tn_3, .ref tn_4, .ref tn_5, .ref tn_6, .int tnv7, .int tnv8, .ref tn_9, .ref tn_10, .int tnv11, .ref tn_12, .ref tn_13, .ref tn_14, .ref tn_15, .int tnv16, .ref tn_17, .ref tn_18, .ref tnt])), (tn_3, .inl (k 0, 10, .inl tng3)), (tn_4, .inl (k 0, 10, .inl tng4)), (tn_5, .inl (k 0, 10, .inl tng5)), (tn_9, .inl (k 0, 4, .inl tng9)), (tn_10, .inl (k 0, 4, .inl tng10))] H1 := hP
    have hD : va_D A [(ob, .inr (3, [.ref oba, .ref ob_1])), (ob_1, .inl (k 2, 1000, .inr (.inl obg1))), (tn_6, .inl (k 0, 10, .inl tng6)), (oba, .inr (1, [.ref oba_0, .int o_5, .int o_6])), (oba_0, .inl (k 0, 8, .inl o_7)), (tn, .inr (10, [.int tnv0, .int tnv1, .int tnv2, .ref tn_3, .ref tn_4, .ref tn_5, .ref tn_6, .int tnv7, .int tnv8, .ref tn_9, .ref tn_10, .int tnv11, .ref tn_12, .ref tn_13, .ref tn_14, .ref tn_15, .int tnv16, .ref tn_17, .ref tn_18, .ref tnt])), (tn_3, .inl (k 0, 10, .inl tng3)), (tn_4, .inl (k 0, 10, .inl tng4)), (tn_5, .inl (k 0, 10, .inl tng5)), (tn_9, .inl (k 0, 4, .inl tng9)), (tn_10, .inl (k 0, 4, .inl tng10))] := hD
    generalize H1 = H at hP hS ⊢
    have hw_13 : (0 ≤ r_12.toInt ∧ r_12.toInt ≤ 1023) := hw
    have hw_14 := hw_13
    clear hw
    refine lv_iload_n hx hb dX3_weighLanes_43 rfl (lv_at hl 4 rfl) ?_
    refine lv_iconst (v := (-1)) hx hb dX3_weighLanes_44 (by decide) ?_
    refine lv_ixor hx hb dX3_weighLanes_45 ?_
    refine lv_topi (fun x_15 ex_15 => ?_)
    have zrp2 := z_rng p2
    refine lv_iand hx hb dX3_weighLanes_46 ?_
    refine lv_topi (fun x_16 ex_16 => ?_)
    have zrx_15 := z_rng x_15
    have zx_16 : 0 ≤ x_16.toInt ∧ x_16.toInt ≤ r_12.toInt := by rw [ex_16]; exact z_andL (by omega)
    refine lv_istore (lv' := [(9, .int x_16), (8, .int x_10), (0, .ref ob), (1, .ref tn), (2, .int p1), (3, .int p2), (4, .int p3), (5, .long p4), (7, .int 0)]) hx hb dX3_weighLanes_47 hl (by decide) rfl (fun ls hl => ?_)
    refine lv_iload hx hb dX3_weighLanes_49 (lv_at hl 0 rfl) ?_
    refine lv_iload hx hb dX3_weighLanes_51 (lv_at hl 0 rfl) ?_
    refine lv_ineg hx hb dX3_weighLanes_53 ?_
    refine lv_topi (fun x_17 ex_17 => ?_)
    refine lv_iand hx hb dX3_weighLanes_54 ?_
    refine lv_topi (fun x_18 ex_18 => ?_)
    have zrx_17 := z_rng x_17
    have zx_18 : 0 ≤ x_18.toInt ∧ x_18.toInt ≤ x_16.toInt := by rw [ex_18]; exact z_andL (by omega)
    refine lv_iconst (v := 1) hx hb dX3_weighLanes_55 (by decide) ?_
    refine lv_isub hx hb dX3_weighLanes_56 ?_
    refine lv_topi (fun x_19 ex_19 => ?_)
    have zx_19 : x_19.toInt = x_18.toInt - 1 := by rw [ex_19]; exact z_sub rfl rfl (by omega) (by omega)
    have hPc := hP.sub (ws' := []) [] rfl
    have hDc := hD.sub (ws' := []) [] (by decide) rfl
    have hFc := va_free (wc := []) hD hS hA [] rfl
    refine va_calli (va_runS (As := [.int x_19]) (rest := []) ⟨hx, hb, hml, hown, hts⟩ (c_J6_bitCount_0f7a4 l D k x_19 H.size) (va_cwS 1 hts (gS tw_5_158 tw_4_101 tw_1_20 tw_4_102) rfl rfl rfl hdS_J6_bitCount_0f7a4 ⟨Nat.le_of_ble_eq_true rfl, Nat.le_of_ble_eq_true rfl⟩) (cz_S hK hPc hDc hN [.int x_19]) rfl rfl hl.1 rfl (lv_room (Nat.le_of_ble_eq_true rfl)) dX3_weighLanes_57 ⟨Nat.le_of_ble_eq_true rfl, Nat.le_of_ble_eq_true rfl⟩) hS (fun q _ h => hFc q h) hFc (fun r_20 uZ tZ H1 locs ht hvm hw hB hz1 hk1 hS => ?_)
    obtain ⟨hP1, hK1, hD1⟩ := hB
    rw [ht] at hP1
    obtain ⟨hP, hD⟩ := va_join (wr := [(ob, .inr (3, [.ref oba, .ref ob_1])), (ob_1, .inl (k 2, 1000, .inr (.inl obg1))), (tn_6, .inl (k 0, 10, .inl tng6)), (oba, .inr (1, [.ref oba_0, .int o_5, .int o_6])), (oba_0, .inl (k 0, 8, .inl o_7)), (tn, .inr (10, [.int tnv0, .int tnv1, .int tnv2, .ref tn_3, .ref tn_4, .ref tn_5, .ref tn_6, .int tnv7, .int tnv8, .ref tn_9, .ref tn_10, .int tnv11, .ref tn_12, .ref tn_13, .ref tn_14, .ref tn_15, .int tnv16, .ref tn_17, .ref tn_18, .ref tnt])), (tn_3, .inl (k 0, 10, .inl tng3)), (tn_4, .inl (k 0, 10, .inl tng4)), (tn_5, .inl (k 0, 10, .inl tng5)), (tn_9, .inl (k 0, 4, .inl tng9)), (tn_10, .inl (k 0, 4, .inl tng10))]) (w1 := []) hP hD [] [0, 1, 2, 3, 4, 5, 6, 7, 8, 9, 10] rfl rfl (by decide) (by decide) hk1 hFc hP1 hD1
    clear hK1 hP1 hD1 hPc hDc hFc
    clear hk1 hz1 ht hvm
    have hP : va_P D vwCl [(ob, .inr (3, [.ref oba, .ref ob_1])), (ob_1, .inl (k 2, 1000, .inr (.inl obg1))), (tn_6, .inl (k 0, 10, .inl tng6)), (oba, .inr (1, [.ref oba_0, .int o_5, .int o_6])), (oba_0, .inl (k 0, 8, .inl o_7)), (tn, .inr (10, [.int tnv0, .int tnv1, .int tnv2, .ref tn_3, .ref tn_4, .ref tn_5, .ref tn_6, .int tnv7, .int tnv8, .ref tn_9, .ref tn_10, .int tnv11, .ref tn_12, .ref tn_13, .ref tn_14, .ref tn_15, .int tnv16, .ref tn_17, .ref tn_18, .ref tnt])), (tn_3, .inl (k 0, 10, .inl tng3)), (tn_4, .inl (k 0, 10, .inl tng4)), (tn_5, .inl (k 0, 10, .inl tng5)), (tn_9, .inl (k 0, 4, .inl tng9)), (tn_10, .inl (k 0, 4, .inl tng10))] H1 := hP
    have hD : va_D A [(ob, .inr (3, [.ref oba, .ref ob_1])), (ob_1, .inl (k 2, 1000, .inr (.inl obg1))), (tn_6, .inl (k 0, 10, .inl tng6)), (oba, .inr (1, [.ref oba_0, .int o_5, .int o_6])), (oba_0, .inl (k 0, 8, .inl o_7)), (tn, .inr (10, [.int tnv0, .int tnv1, .int tnv2, .ref tn_3, .ref tn_4, .ref tn_5, .ref tn_6, .int tnv7, .int tnv8, .ref tn_9, .ref tn_10, .int tnv11, .ref tn_12, .ref tn_13, .ref tn_14, .ref tn_15, .int tnv16, .ref tn_17, .ref tn_18, .ref tnt])), (tn_3, .inl (k 0, 10, .inl tng3)), (tn_4, .inl (k 0, 10, .inl tng4)), (tn_5, .inl (k 0, 10, .inl tng5)), (tn_9, .inl (k 0, 4, .inl tng9)), (tn_10, .inl (k 0, 4, .inl tng10))] := hD
    generalize H1 = H at hP hS ⊢
    have hw_21 : (0 ≤ r_20.toInt ∧ r_20.toInt ≤ 63) := hw
    have hw_22 := hw_21
    clear hw
    refine lv_istore (lv' := [(10, .int r_20), (9, .int x_16), (8, .int x_10), (0, .ref ob), (1, .ref tn), (2, .int p1), (3, .int p2), (4, .int p3), (5, .long p4), (7, .int 0)]) hx hb dX3_weighLanes_60 hl (by decide) rfl (fun ls hl => ?_)
    refine lv_iload hx hb dX3_weighLanes_62 (lv_at hl 1 rfl) ?_
    refine lv_if_eq (tgt := 81) hx hb dX3_weighLanes_64 (by decide) (fun h_23 => ?_) (fun h_23 => ?_)
    · skip
      have zh_23 : x_16.toInt = 0 := z_eq h_23
      refine lv_aload_n hx hb dX3_weighLanes_81 rfl (lv_at hl 3 rfl) ?_
      refine va_get (D := D) (ci := 3) (v := .ref ob_1) (C := RX3) (T := TX3) (N := 2) hx hb hts iT_X3 hown hK hP 0 rfl rfl 1 (by decide) (hts _ tw_2_164) (fun _ h9 => h9) rfl dX3_weighLanes_82 ?_
      refine lv_iload hx hb dX3_weighLanes_85 (lv_at hl 2 rfl) ?_
      refine lv_dup2_11 hx hb dX3_weighLanes_87 rfl rfl ?_
      refine va_lald hx hb hK hP 1 2 rfl rfl (z_in (by omega) (by omega)) dX3_weighLanes_88 ?_
      refine lv_topl (fun x_24 ex_24 => ?_)
      refine lv_lload hx hb dX3_weighLanes_89 (lv_at hl 8 rfl) ?_
      refine lv_ladd hx hb dX3_weighLanes_91 ?_
      refine lv_topl (fun x_25 ex_25 => ?_)
      refine va_last hx hb hK hP hD hS 1 2 rfl rfl (z_in (by omega) (by omega)) dX3_weighLanes_92 (fun H locs hP hD hS => ?_)
      obtain ⟨g_26, eg_26⟩ : ∃ z : Nat → Int64, vp_updL obg1 x_10.toNatClampNeg x_25 = z := ⟨_, rfl⟩
      have hP : va_P D vwCl [(ob, .inr (3, [.ref oba, .ref ob_1])), (ob_1, .inl (k 2, 1000, .inr (.inl (vp_updL obg1 x_10.toNatClampNeg x_25)))), (tn_6, .inl (k 0, 10, .inl tng6)), (oba, .inr (1, [.ref oba_0, .int o_5, .int o_6])), (oba_0, .inl (k 0, 8, .inl o_7)), (tn, .inr (10, [.int tnv0, .int tnv1, .int tnv2, .ref tn_3, .ref tn_4, .ref tn_5, .ref tn_6, .int tnv7, .int tnv8, .ref tn_9, .ref tn_10, .int tnv11, .ref tn_12, .ref tn_13, .ref tn_14, .ref tn_15, .int tnv16, .ref tn_17, .ref tn_18, .ref tnt])), (tn_3, .inl (k 0, 10, .inl tng3)), (tn_4, .inl (k 0, 10, .inl tng4)), (tn_5, .inl (k 0, 10, .inl tng5)), (tn_9, .inl (k 0, 4, .inl tng9)), (tn_10, .inl (k 0, 4, .inl tng10))] H := hP
      have hD : va_D A [(ob, .inr (3, [.ref oba, .ref ob_1])), (ob_1, .inl (k 2, 1000, .inr (.inl (vp_updL obg1 x_10.toNatClampNeg x_25)))), (tn_6, .inl (k 0, 10, .inl tng6)), (oba, .inr (1, [.ref oba_0, .int o_5, .int o_6])), (oba_0, .inl (k 0, 8, .inl o_7)), (tn, .inr (10, [.int tnv0, .int tnv1, .int tnv2, .ref tn_3, .ref tn_4, .ref tn_5, .ref tn_6, .int tnv7, .int tnv8, .ref tn_9, .ref tn_10, .int tnv11, .ref tn_12, .ref tn_13, .ref tn_14, .ref tn_15, .int tnv16, .ref tn_17, .ref tn_18, .ref tnt])), (tn_3, .inl (k 0, 10, .inl tng3)), (tn_4, .inl (k 0, 10, .inl tng4)), (tn_5, .inl (k 0, 10, .inl tng5)), (tn_9, .inl (k 0, 4, .inl tng9)), (tn_10, .inl (k 0, 4, .inl tng10))] := hD
      rw [eg_26] at hP hD
      have hP9 := hP.sub (ws' := [(ob, .inr (3, [.ref oba, .ref ob_1])), (oba, .inr (1, [.ref oba_0, .int o_5, .int o_6])), (oba_0, .inl (k 0, 8, .inl o_7)), (ob_1, .inl (k 2, 1000, .inr (.inl g_26))), (tn, .inr (10, [.int tnv0, .int tnv1, .int tnv2, .ref tn_3, .ref tn_4, .ref tn_5, .ref tn_6, .int tnv7, .int tnv8, .ref tn_9, .ref tn_10, .int tnv11, .ref tn_12, .ref tn_13, .ref tn_14, .ref tn_15, .int tnv16, .ref tn_17, .ref tn_18, .ref tnt])), (tn_3, .inl (k 0, 10, .inl tng3)), (tn_4, .inl (k 0, 10, .inl tng4)), (tn_5, .inl (k 0, 10, .inl tng5)), (tn_6, .inl (k 0, 10, .inl tng6)), (tn_9, .inl (k 0, 4, .inl tng9)), (tn_10, .inl (k 0, 4, .inl tng10))]) [0, 3, 4, 1, 5, 6, 7, 8, 2, 9, 10] rfl
      have hD9 := hD.sub (ws' := [(ob, .inr (3, [.ref oba, .ref ob_1])), (oba, .inr (1, [.ref oba_0, .int o_5, .int o_6])), (oba_0, .inl (k 0, 8, .inl o_7)), (ob_1, .inl (k 2, 1000, .inr (.inl g_26))), (tn, .inr (10, [.int tnv0, .int tnv1, .int tnv2, .ref tn_3, .ref tn_4, .ref tn_5, .ref tn_6, .int tnv7, .int tnv8, .ref tn_9, .ref tn_10, .int tnv11, .ref tn_12, .ref tn_13, .ref tn_14, .ref tn_15, .int tnv16, .ref tn_17, .ref tn_18, .ref tnt])), (tn_3, .inl (k 0, 10, .inl tng3)), (tn_4, .inl (k 0, 10, .inl tng4)), (tn_5, .inl (k 0, 10, .inl tng5)), (tn_6, .inl (k 0, 10, .inl tng6)), (tn_9, .inl (k 0, 4, .inl tng9)), (tn_10, .inl (k 0, 4, .inl tng10))]) [0, 3, 4, 1, 5, 6, 7, 8, 2, 9, 10] (by decide) rfl
      exact W.vret hx hb hr (fun tZ ht hW => ⟨⟨(o_5, o_6, o_7, g_26), rfl, hw_9, by rw [ht]; exact hP9, va_K.moved hW.alike hK, hD9⟩, hS.F ht⟩) hS.2.2 dX3_weighLanes_93
    · skip
      have zh_23 : ¬ x_16.toInt = 0 := z_ne h_23
      refine lv_iload hx hb dX3_weighLanes_67 (lv_at hl 0 rfl) ?_
      refine lv_bipush (v := 10) hx hb dX3_weighLanes_69 (by decide) ?_
      refine lv_icmp_ge (tgt := 81) hx hb dX3_weighLanes_71 (by decide) (fun h_27 => ?_) (fun h_27 => ?_)
      · skip
        have zh_27 : 10 ≤ r_20.toInt := z_le h_27
        refine lv_aload_n hx hb dX3_weighLanes_81 rfl (lv_at hl 3 rfl) ?_
        refine va_get (D := D) (ci := 3) (v := .ref ob_1) (C := RX3) (T := TX3) (N := 2) hx hb hts iT_X3 hown hK hP 0 rfl rfl 1 (by decide) (hts _ tw_2_164) (fun _ h9 => h9) rfl dX3_weighLanes_82 ?_
        refine lv_iload hx hb dX3_weighLanes_85 (lv_at hl 2 rfl) ?_
        refine lv_dup2_11 hx hb dX3_weighLanes_87 rfl rfl ?_
        refine va_lald hx hb hK hP 1 2 rfl rfl (z_in (by omega) (by omega)) dX3_weighLanes_88 ?_
        refine lv_topl (fun x_28 ex_28 => ?_)
        refine lv_lload hx hb dX3_weighLanes_89 (lv_at hl 8 rfl) ?_
        refine lv_ladd hx hb dX3_weighLanes_91 ?_
        refine lv_topl (fun x_29 ex_29 => ?_)
        refine va_last hx hb hK hP hD hS 1 2 rfl rfl (z_in (by omega) (by omega)) dX3_weighLanes_92 (fun H locs hP hD hS => ?_)
        obtain ⟨g_30, eg_30⟩ : ∃ z : Nat → Int64, vp_updL obg1 x_10.toNatClampNeg x_29 = z := ⟨_, rfl⟩
        have hP : va_P D vwCl [(ob, .inr (3, [.ref oba, .ref ob_1])), (ob_1, .inl (k 2, 1000, .inr (.inl (vp_updL obg1 x_10.toNatClampNeg x_29)))), (tn_6, .inl (k 0, 10, .inl tng6)), (oba, .inr (1, [.ref oba_0, .int o_5, .int o_6])), (oba_0, .inl (k 0, 8, .inl o_7)), (tn, .inr (10, [.int tnv0, .int tnv1, .int tnv2, .ref tn_3, .ref tn_4, .ref tn_5, .ref tn_6, .int tnv7, .int tnv8, .ref tn_9, .ref tn_10, .int tnv11, .ref tn_12, .ref tn_13, .ref tn_14, .ref tn_15, .int tnv16, .ref tn_17, .ref tn_18, .ref tnt])), (tn_3, .inl (k 0, 10, .inl tng3)), (tn_4, .inl (k 0, 10, .inl tng4)), (tn_5, .inl (k 0, 10, .inl tng5)), (tn_9, .inl (k 0, 4, .inl tng9)), (tn_10, .inl (k 0, 4, .inl tng10))] H := hP
        have hD : va_D A [(ob, .inr (3, [.ref oba, .ref ob_1])), (ob_1, .inl (k 2, 1000, .inr (.inl (vp_updL obg1 x_10.toNatClampNeg x_29)))), (tn_6, .inl (k 0, 10, .inl tng6)), (oba, .inr (1, [.ref oba_0, .int o_5, .int o_6])), (oba_0, .inl (k 0, 8, .inl o_7)), (tn, .inr (10, [.int tnv0, .int tnv1, .int tnv2, .ref tn_3, .ref tn_4, .ref tn_5, .ref tn_6, .int tnv7, .int tnv8, .ref tn_9, .ref tn_10, .int tnv11, .ref tn_12, .ref tn_13, .ref tn_14, .ref tn_15, .int tnv16, .ref tn_17, .ref tn_18, .ref tnt])), (tn_3, .inl (k 0, 10, .inl tng3)), (tn_4, .inl (k 0, 10, .inl tng4)), (tn_5, .inl (k 0, 10, .inl tng5)), (tn_9, .inl (k 0, 4, .inl tng9)), (tn_10, .inl (k 0, 4, .inl tng10))] := hD
        rw [eg_30] at hP hD
        have hP9 := hP.sub (ws' := [(ob, .inr (3, [.ref oba, .ref ob_1])), (oba, .inr (1, [.ref oba_0, .int o_5, .int o_6])), (oba_0, .inl (k 0, 8, .inl o_7)), (ob_1, .inl (k 2, 1000, .inr (.inl g_30))), (tn, .inr (10, [.int tnv0, .int tnv1, .int tnv2, .ref tn_3, .ref tn_4, .ref tn_5, .ref tn_6, .int tnv7, .int tnv8, .ref tn_9, .ref tn_10, .int tnv11, .ref tn_12, .ref tn_13, .ref tn_14, .ref tn_15, .int tnv16, .ref tn_17, .ref tn_18, .ref tnt])), (tn_3, .inl (k 0, 10, .inl tng3)), (tn_4, .inl (k 0, 10, .inl tng4)), (tn_5, .inl (k 0, 10, .inl tng5)), (tn_6, .inl (k 0, 10, .inl tng6)), (tn_9, .inl (k 0, 4, .inl tng9)), (tn_10, .inl (k 0, 4, .inl tng10))]) [0, 3, 4, 1, 5, 6, 7, 8, 2, 9, 10] rfl
        have hD9 := hD.sub (ws' := [(ob, .inr (3, [.ref oba, .ref ob_1])), (oba, .inr (1, [.ref oba_0, .int o_5, .int o_6])), (oba_0, .inl (k 0, 8, .inl o_7)), (ob_1, .inl (k 2, 1000, .inr (.inl g_30))), (tn, .inr (10, [.int tnv0, .int tnv1, .int tnv2, .ref tn_3, .ref tn_4, .ref tn_5, .ref tn_6, .int tnv7, .int tnv8, .ref tn_9, .ref tn_10, .int tnv11, .ref tn_12, .ref tn_13, .ref tn_14, .ref tn_15, .int tnv16, .ref tn_17, .ref tn_18, .ref tnt])), (tn_3, .inl (k 0, 10, .inl tng3)), (tn_4, .inl (k 0, 10, .inl tng4)), (tn_5, .inl (k 0, 10, .inl tng5)), (tn_6, .inl (k 0, 10, .inl tng6)), (tn_9, .inl (k 0, 4, .inl tng9)), (tn_10, .inl (k 0, 4, .inl tng10))]) [0, 3, 4, 1, 5, 6, 7, 8, 2, 9, 10] (by decide) rfl
        exact W.vret hx hb hr (fun tZ ht hW => ⟨⟨(o_5, o_6, o_7, g_30), rfl, hw_9, by rw [ht]; exact hP9, va_K.moved hW.alike hK, hD9⟩, hS.F ht⟩) hS.2.2 dX3_weighLanes_93
      · skip
        have zh_27 : r_20.toInt < 10 := z_nle h_27
        refine lv_iload hx hb dX3_weighLanes_74 (lv_at hl 9 rfl) ?_
        refine lv_bipush (v := 10) hx hb dX3_weighLanes_76 (by decide) ?_
        refine lv_icmp_lt (tgt := 94) hx hb dX3_weighLanes_78 (by decide) (fun _ => ?_) (fun c9 => absurd c9 (by decide))
        refine lv_iconst (v := 1) hx hb dX3_weighLanes_94 (by decide) ?_
        refine lv_iload hx hb dX3_weighLanes_95 (lv_at hl 0 rfl) ?_
        refine lv_ishl hx hb dX3_weighLanes_97 ?_
        refine lv_topi (fun x_31 ex_31 => ?_)
        have zx_31 : 1 ≤ x_31.toInt ∧ x_31.toInt ≤ 512 := by rw [ex_31]; exact z_shl1 9 512 rfl (by decide) (by omega) (by omega)
        refine lv_istore (lv' := [(11, .int x_31), (10, .int r_20), (9, .int x_16), (8, .int x_10), (0, .ref ob), (1, .ref tn), (2, .int p1), (3, .int p2), (4, .int p3), (5, .long p4), (7, .int 0)]) hx hb dX3_weighLanes_98 hl (by decide) rfl (fun ls hl => ?_)
        refine lv_lload hx hb dX3_weighLanes_100 (lv_at hl 9 rfl) ?_
        refine lv_ldc2 (v := 10) hx hb hown (hts _ tw_5_159) dX3_weighLanes_102 ?_
        refine lv_ldiv hx hb dX3_weighLanes_105 (by decide) ?_
        refine lv_topl (fun x_32 ex_32 => ?_)
        refine lv_lstore (lv' := [(12, .long x_32), (11, .int x_31), (10, .int r_20), (9, .int x_16), (8, .int x_10), (0, .ref ob), (1, .ref tn), (2, .int p1), (3, .int p2), (4, .int p3), (5, .long p4), (7, .int 0)]) hx hb dX3_weighLanes_106 hl (by decide) rfl (fun ls hl => ?_)
        refine lv_aload_n hx hb dX3_weighLanes_108 rfl (lv_at hl 5 rfl) ?_
        refine lv_aload_n hx hb dX3_weighLanes_109 rfl (lv_at hl 6 rfl) ?_
        refine lv_iload_n hx hb dX3_weighLanes_110 rfl (lv_at hl 7 rfl) ?_
        refine lv_iload_n hx hb dX3_weighLanes_111 rfl (lv_at hl 8 rfl) ?_
        refine lv_iload hx hb dX3_weighLanes_112 (lv_at hl 1 rfl) ?_
        refine lv_ior hx hb dX3_weighLanes_114 ?_
        refine lv_topi (fun x_33 ex_33 => ?_)
        refine lv_iload hx hb dX3_weighLanes_115 (lv_at hl 9 rfl) ?_
        refine lv_lload hx hb dX3_weighLanes_117 (lv_at hl 0 rfl) ?_
        refine lv_bipush (v := 10) hx hb dX3_weighLanes_119 (by decide) ?_
        refine lv_aload_n hx hb dX3_weighLanes_121 rfl (lv_at hl 6 rfl) ?_
        refine va_get (D := D) (ci := 10) (v := .ref tn_6) (C := RX10) (T := TX10) (N := 20) hx hb hts iT_X10 hown hK hP 5 rfl rfl 6 (by decide) (hts _ tw_1_98) (fun _ h9 => h9) rfl dX3_weighLanes_122 ?_
        refine lv_iload hx hb dX3_weighLanes_125 (lv_at hl 2 rfl) ?_
        refine va_iald hx hb hK hP 2 0 rfl rfl (z_in (by omega) (by omega)) dX3_weighLanes_127 ?_
        refine lv_topi (fun x_34 ex_34 => ?_)
        have zx_34r0 : 0 ≤ x_34.toInt ∧ x_34.toInt ≤ 10 := by rw [ex_34]; exact PR.ld hp_tng6_0 (by omega) (by omega) (by omega)
        refine lv_isub hx hb dX3_weighLanes_128 ?_
        refine lv_topi (fun x_35 ex_35 => ?_)
        have zx_35 : x_35.toInt = 10 - x_34.toInt := by rw [ex_35]; exact z_sub rfl rfl (by omega) (by omega)
        refine lv_i2l (v := x_35.toInt64) hx hb dX3_weighLanes_129 rfl ?_
        refine lv_lmul hx hb dX3_weighLanes_130 ?_
        refine lv_topl (fun x_36 ex_36 => ?_)
        refine lv_iload hx hb dX3_weighLanes_131 (lv_at hl 11 rfl) ?_
        refine lv_iconst (v := 1) hx hb dX3_weighLanes_133 (by decide) ?_
        refine lv_iadd hx hb dX3_weighLanes_134 ?_
        refine lv_topi (fun x_37 ex_37 => ?_)
        obtain rfl : x_37 = 1 := ex_37.trans (by decide)
        have hPc := hP.sub (ws' := [(ob, .inr (3, [.ref oba, .ref ob_1])), (oba, .inr (1, [.ref oba_0, .int o_5, .int o_6])), (oba_0, .inl (k 0, 8, .inl o_7)), (ob_1, .inl (k 2, 1000, .inr (.inl obg1))), (tn, .inr (10, [.int tnv0, .int tnv1, .int tnv2, .ref tn_3, .ref tn_4, .ref tn_5, .ref tn_6, .int tnv7, .int tnv8, .ref tn_9, .ref tn_10, .int tnv11, .ref tn_12, .ref tn_13, .ref tn_14, .ref tn_15, .int tnv16, .ref tn_17, .ref tn_18, .ref tnt])), (tn_3, .inl (k 0, 10, .inl tng3)), (tn_4, .inl (k 0, 10, .inl tng4)), (tn_5, .inl (k 0, 10, .inl tng5)), (tn_6, .inl (k 0, 10, .inl tng6)), (tn_9, .inl (k 0, 4, .inl tng9)), (tn_10, .inl (k 0, 4, .inl tng10))]) [0, 3, 4, 1, 5, 6, 7, 8, 2, 9, 10] rfl
        have hDc := hD.sub (ws' := [(ob, .inr (3, [.ref oba, .ref ob_1])), (oba, .inr (1, [.ref oba_0, .int o_5, .int o_6])), (oba_0, .inl (k 0, 8, .inl o_7)), (ob_1, .inl (k 2, 1000, .inr (.inl obg1))), (tn, .inr (10, [.int tnv0, .int tnv1, .int tnv2, .ref tn_3, .ref tn_4, .ref tn_5, .ref tn_6, .int tnv7, .int tnv8, .ref tn_9, .ref tn_10, .int tnv11, .ref tn_12, .ref tn_13, .ref tn_14, .ref tn_15, .int tnv16, .ref tn_17, .ref tn_18, .ref tnt])), (tn_3, .inl (k 0, 10, .inl tng3)), (tn_4, .inl (k 0, 10, .inl tng4)), (tn_5, .inl (k 0, 10, .inl tng5)), (tn_6, .inl (k 0, 10, .inl tng6)), (tn_9, .inl (k 0, 4, .inl tng9)), (tn_10, .inl (k 0, 4, .inl tng10))]) [0, 3, 4, 1, 5, 6, 7, 8, 2, 9, 10] (by decide) rfl
        have hFc := va_free (wc := [(ob, .inr (3, [.ref oba, .ref ob_1])), (oba, .inr (1, [.ref oba_0, .int o_5, .int o_6])), (oba_0, .inl (k 0, 8, .inl o_7)), (ob_1, .inl (k 2, 1000, .inr (.inl obg1))), (tn, .inr (10, [.int tnv0, .int tnv1, .int tnv2, .ref tn_3, .ref tn_4, .ref tn_5, .ref tn_6, .int tnv7, .int tnv8, .ref tn_9, .ref tn_10, .int tnv11, .ref tn_12, .ref tn_13, .ref tn_14, .ref tn_15, .int tnv16, .ref tn_17, .ref tn_18, .ref tnt])), (tn_3, .inl (k 0, 10, .inl tng3)), (tn_4, .inl (k 0, 10, .inl tng4)), (tn_5, .inl (k 0, 10, .inl tng5)), (tn_6, .inl (k 0, 10, .inl tng6)), (tn_9, .inl (k 0, 4, .inl tng9)), (tn_10, .inl (k 0, 4, .inl tng10))]) hD hS hA [0, 3, 4, 1, 5, 6, 7, 8, 2, 9, 10] rfl
        refine va_callv (va_runV (C := RX3) (As := [.ref tn, .int p1, .int x_33, .int p3, .long x_36, .int 1]) (rest := []) ⟨hx, hb, hml, hown, hts⟩ (c_X3_weighLanes_9 l D k ob tn p1 x_33 p3 x_36 oba ob_1 oba_0 o_5 o_6 o_7 obg1 tnv0 tnv1 tnv2 tn_3 tn_4 tn_5 tn_6 tnv7 tnv8 tn_9 tn_10 tnv11 tn_12 tn_13 tn_14 tn_15 tnv16 tn_17 tn_18 tnt tng3 tng4 tng5 tng6 tng9 tng10 H.size (show 0 ≤ p1.toInt ∧ p1.toInt ≤ 7 from by omega) hw_9 (show 0 ≤ tnv0.toInt ∧ tnv0.toInt ≤ 8 from by omega) (show 0 ≤ tnv2.toInt ∧ tnv2.toInt ≤ 10 from by omega) (show 0 ≤ tnv8.toInt ∧ tnv8.toInt ≤ 4 from by omega) (show 0 ≤ tnv11.toInt ∧ tnv11.toInt ≤ 6 from by omega) (show 0 ≤ tnv16.toInt ∧ tnv16.toInt ≤ 2 from by omega) hp_tng3_0 hp_tng4_0 hp_tng5_0 hp_tng6_0 hp_tng9_0 hp_tng10_0) (cwV 6 hts (gV tw_5_151 tw_5_153 tw_p_34 tw_1_12 tw_5_154) rfl rfl rfl hdV_X3_weighLanes ⟨Nat.le_of_ble_eq_true rfl, Nat.le_of_ble_eq_true rfl⟩) (cz_V hK hPc hDc hN (ci := 3) (q0 := 0) rfl rfl [.ref tn, .int p1, .int x_33, .int p3, .long x_36, .int 1]) rfl rfl hl.1 rfl (lv_room (Nat.le_of_ble_eq_true rfl)) dX3_weighLanes_135 ⟨Nat.le_of_ble_eq_true rfl, Nat.le_of_ble_eq_true rfl⟩) hS (fun q _ h => hFc q h) hFc (fun uZ tZ H1 locs ht hvm hw hB hz1 hk1 hS => ?_)
        obtain ⟨o_39, o_40, o_41, o_42⟩ := uZ
        obtain ⟨hP1, hK1, hD1⟩ := hB
        rw [ht] at hP1
        obtain ⟨hP, hD⟩ := va_join (wr := []) (w1 := [(ob, .inr (3, [.ref oba, .ref ob_1])), (oba, .inr (1, [.ref oba_0, .int o_39, .int o_40])), (oba_0, .inl (k 0, 8, .inl o_41)), (ob_1, .inl (k 2, 1000, .inr (.inl o_42))), (tn, .inr (10, [.int tnv0, .int tnv1, .int tnv2, .ref tn_3, .ref tn_4, .ref tn_5, .ref tn_6, .int tnv7, .int tnv8, .ref tn_9, .ref tn_10, .int tnv11, .ref tn_12, .ref tn_13, .ref tn_14, .ref tn_15, .int tnv16, .ref tn_17, .ref tn_18, .ref tnt])), (tn_3, .inl (k 0, 10, .inl tng3)), (tn_4, .inl (k 0, 10, .inl tng4)), (tn_5, .inl (k 0, 10, .inl tng5)), (tn_6, .inl (k 0, 10, .inl tng6)), (tn_9, .inl (k 0, 4, .inl tng9)), (tn_10, .inl (k 0, 4, .inl tng10))]) hP hD [0, 3, 4, 1, 5, 6, 7, 8, 2, 9, 10] [] rfl rfl (by decide) (by decide) hk1 hFc hP1 hD1
        clear hK1 hP1 hD1 hPc hDc hFc
        clear hk1 hz1 ht hvm
        have hP : va_P D vwCl [(ob, .inr (3, [.ref oba, .ref ob_1])), (oba, .inr (1, [.ref oba_0, .int o_39, .int o_40])), (oba_0, .inl (k 0, 8, .inl o_41)), (ob_1, .inl (k 2, 1000, .inr (.inl o_42))), (tn, .inr (10, [.int tnv0, .int tnv1, .int tnv2, .ref tn_3, .ref tn_4, .ref tn_5, .ref tn_6, .int tnv7, .int tnv8, .ref tn_9, .ref tn_10, .int tnv11, .ref tn_12, .ref tn_13, .ref tn_14, .ref tn_15, .int tnv16, .ref tn_17, .ref tn_18, .ref tnt])), (tn_3, .inl (k 0, 10, .inl tng3)), (tn_4, .inl (k 0, 10, .inl tng4)), (tn_5, .inl (k 0, 10, .inl tng5)), (tn_6, .inl (k 0, 10, .inl tng6)), (tn_9, .inl (k 0, 4, .inl tng9)), (tn_10, .inl (k 0, 4, .inl tng10))] H1 := hP
        have hD : va_D A [(ob, .inr (3, [.ref oba, .ref ob_1])), (oba, .inr (1, [.ref oba_0, .int o_39, .int o_40])), (oba_0, .inl (k 0, 8, .inl o_41)), (ob_1, .inl (k 2, 1000, .inr (.inl o_42))), (tn, .inr (10, [.int tnv0, .int tnv1, .int tnv2, .ref tn_3, .ref tn_4, .ref tn_5, .ref tn_6, .int tnv7, .int tnv8, .ref tn_9, .ref tn_10, .int tnv11, .ref tn_12, .ref tn_13, .ref tn_14, .ref tn_15, .int tnv16, .ref tn_17, .ref tn_18, .ref tnt])), (tn_3, .inl (k 0, 10, .inl tng3)), (tn_4, .inl (k 0, 10, .inl tng4)), (tn_5, .inl (k 0, 10, .inl tng5)), (tn_6, .inl (k 0, 10, .inl tng6)), (tn_9, .inl (k 0, 4, .inl tng9)), (tn_10, .inl (k 0, 4, .inl tng10))] := hD
        generalize H1 = H at hP hS ⊢
        have hw_43 : (PR 8 1 0 0 1000000 o_41) := hw
        have hw_44 := hw_43
        clear hw
        refine lv_aload_n hx hb dX3_weighLanes_138 rfl (lv_at hl 5 rfl) ?_
        refine lv_aload_n hx hb dX3_weighLanes_139 rfl (lv_at hl 6 rfl) ?_
        refine lv_iload_n hx hb dX3_weighLanes_140 rfl (lv_at hl 7 rfl) ?_
        refine lv_iload_n hx hb dX3_weighLanes_141 rfl (lv_at hl 8 rfl) ?_
        refine lv_iload hx hb dX3_weighLanes_142 (lv_at hl 1 rfl) ?_
        refine lv_ior hx hb dX3_weighLanes_144 ?_
        refine lv_topi (fun x_45 ex_45 => ?_)
        obtain rfl : x_33 = x_45 := ex_33.trans ex_45.symm
        refine lv_iload hx hb dX3_weighLanes_145 (lv_at hl 9 rfl) ?_
        refine lv_iload hx hb dX3_weighLanes_147 (lv_at hl 1 rfl) ?_
        refine lv_ior hx hb dX3_weighLanes_149 ?_
        refine lv_topi (fun x_46 ex_46 => ?_)
        have zrp3 := z_rng p3
        refine lv_lload hx hb dX3_weighLanes_150 (lv_at hl 0 rfl) ?_
        refine lv_aload_n hx hb dX3_weighLanes_152 rfl (lv_at hl 6 rfl) ?_
        refine va_get (D := D) (ci := 10) (v := .ref tn_6) (C := RX10) (T := TX10) (N := 20) hx hb hts iT_X10 hown hK hP 4 rfl rfl 6 (by decide) (hts _ tw_1_98) (fun _ h9 => h9) rfl dX3_weighLanes_153 ?_
        refine lv_iload hx hb dX3_weighLanes_156 (lv_at hl 2 rfl) ?_
        refine va_iald hx hb hK hP 8 0 rfl rfl (z_in (by omega) (by omega)) dX3_weighLanes_158 ?_
        refine lv_topi (fun x_47 ex_47 => ?_)
        obtain rfl : x_34 = x_47 := ex_34.trans ex_47.symm
        refine lv_i2l (v := x_34.toInt64) hx hb dX3_weighLanes_159 rfl ?_
        refine lv_lmul hx hb dX3_weighLanes_160 ?_
        refine lv_topl (fun x_48 ex_48 => ?_)
        refine lv_iload hx hb dX3_weighLanes_161 (lv_at hl 11 rfl) ?_
        refine lv_iconst (v := 1) hx hb dX3_weighLanes_163 (by decide) ?_
        refine lv_iadd hx hb dX3_weighLanes_164 ?_
        refine lv_topi (fun x_49 ex_49 => ?_)
        obtain rfl : x_49 = 1 := ex_49.trans (by decide)
        have hPc := hP.sub (ws' := [(ob, .inr (3, [.ref oba, .ref ob_1])), (oba, .inr (1, [.ref oba_0, .int o_39, .int o_40])), (oba_0, .inl (k 0, 8, .inl o_41)), (ob_1, .inl (k 2, 1000, .inr (.inl o_42))), (tn, .inr (10, [.int tnv0, .int tnv1, .int tnv2, .ref tn_3, .ref tn_4, .ref tn_5, .ref tn_6, .int tnv7, .int tnv8, .ref tn_9, .ref tn_10, .int tnv11, .ref tn_12, .ref tn_13, .ref tn_14, .ref tn_15, .int tnv16, .ref tn_17, .ref tn_18, .ref tnt])), (tn_3, .inl (k 0, 10, .inl tng3)), (tn_4, .inl (k 0, 10, .inl tng4)), (tn_5, .inl (k 0, 10, .inl tng5)), (tn_6, .inl (k 0, 10, .inl tng6)), (tn_9, .inl (k 0, 4, .inl tng9)), (tn_10, .inl (k 0, 4, .inl tng10))]) [0, 1, 2, 3, 4, 5, 6, 7, 8, 9, 10] rfl
        have hDc := hD.sub (ws' := [(ob, .inr (3, [.ref oba, .ref ob_1])), (oba, .inr (1, [.ref oba_0, .int o_39, .int o_40])), (oba_0, .inl (k 0, 8, .inl o_41)), (ob_1, .inl (k 2, 1000, .inr (.inl o_42))), (tn, .inr (10, [.int tnv0, .int tnv1, .int tnv2, .ref tn_3, .ref tn_4, .ref tn_5, .ref tn_6, .int tnv7, .int tnv8, .ref tn_9, .ref tn_10, .int tnv11, .ref tn_12, .ref tn_13, .ref tn_14, .ref tn_15, .int tnv16, .ref tn_17, .ref tn_18, .ref tnt])), (tn_3, .inl (k 0, 10, .inl tng3)), (tn_4, .inl (k 0, 10, .inl tng4)), (tn_5, .inl (k 0, 10, .inl tng5)), (tn_6, .inl (k 0, 10, .inl tng6)), (tn_9, .inl (k 0, 4, .inl tng9)), (tn_10, .inl (k 0, 4, .inl tng10))]) [0, 1, 2, 3, 4, 5, 6, 7, 8, 9, 10] (by decide) rfl
        have hFc := va_free (wc := [(ob, .inr (3, [.ref oba, .ref ob_1])), (oba, .inr (1, [.ref oba_0, .int o_39, .int o_40])), (oba_0, .inl (k 0, 8, .inl o_41)), (ob_1, .inl (k 2, 1000, .inr (.inl o_42))), (tn, .inr (10, [.int tnv0, .int tnv1, .int tnv2, .ref tn_3, .ref tn_4, .ref tn_5, .ref tn_6, .int tnv7, .int tnv8, .ref tn_9, .ref tn_10, .int tnv11, .ref tn_12, .ref tn_13, .ref tn_14, .ref tn_15, .int tnv16, .ref tn_17, .ref tn_18, .ref tnt])), (tn_3, .inl (k 0, 10, .inl tng3)), (tn_4, .inl (k 0, 10, .inl tng4)), (tn_5, .inl (k 0, 10, .inl tng5)), (tn_6, .inl (k 0, 10, .inl tng6)), (tn_9, .inl (k 0, 4, .inl tng9)), (tn_10, .inl (k 0, 4, .inl tng10))]) hD hS hA [0, 1, 2, 3, 4, 5, 6, 7, 8, 9, 10] rfl
        refine va_callv (va_runV (C := RX3) (As := [.ref tn, .int p1, .int x_33, .int x_46, .long x_48, .int 1]) (rest := []) ⟨hx, hb, hml, hown, hts⟩ (c_X3_weighLanes_9 l D k ob tn p1 x_33 x_46 x_48 oba ob_1 oba_0 o_39 o_40 o_41 o_42 tnv0 tnv1 tnv2 tn_3 tn_4 tn_5 tn_6 tnv7 tnv8 tn_9 tn_10 tnv11 tn_12 tn_13 tn_14 tn_15 tnv16 tn_17 tn_18 tnt tng3 tng4 tng5 tng6 tng9 tng10 H.size (show 0 ≤ p1.toInt ∧ p1.toInt ≤ 7 from by omega) hw_44 (show 0 ≤ tnv0.toInt ∧ tnv0.toInt ≤ 8 from by omega) (show 0 ≤ tnv2.toInt ∧ tnv2.toInt ≤ 10 from by omega) (show 0 ≤ tnv8.toInt ∧ tnv8.toInt ≤ 4 from by omega) (show 0 ≤ tnv11.toInt ∧ tnv11.toInt ≤ 6 from by omega) (show 0 ≤ tnv16.toInt ∧ tnv16.toInt ≤ 2 from by omega) hp_tng3_0 hp_tng4_0 hp_tng5_0 hp_tng6_0 hp_tng9_0 hp_tng10_0) (cwV 6 hts (gV tw_5_151 tw_5_153 tw_p_34 tw_1_12 tw_5_154) rfl rfl rfl hdV_X3_weighLanes ⟨Nat.le_of_ble_eq_true rfl, Nat.le_of_ble_eq_true rfl⟩) (cz_V hK hPc hDc hN (ci := 3) (q0 := 0) rfl rfl [.ref tn, .int p1, .int x_33, .int x_46, .long x_48, .int 1]) rfl rfl hl.1 rfl (lv_room (Nat.le_of_ble_eq_true rfl)) dX3_weighLanes_165 ⟨Nat.le_of_ble_eq_true rfl, Nat.le_of_ble_eq_true rfl⟩) hS (fun q _ h => hFc q h) hFc (fun uZ tZ H1 locs ht hvm hw hB hz1 hk1 hS => ?_)
        obtain ⟨o_51, o_52, o_53, o_54⟩ := uZ
        obtain ⟨hP1, hK1, hD1⟩ := hB
        rw [ht] at hP1
        obtain ⟨hP, hD⟩ := va_join (wr := []) (w1 := [(ob, .inr (3, [.ref oba, .ref ob_1])), (oba, .inr (1, [.ref oba_0, .int o_51, .int o_52])), (oba_0, .inl (k 0, 8, .inl o_53)), (ob_1, .inl (k 2, 1000, .inr (.inl o_54))), (tn, .inr (10, [.int tnv0, .int tnv1, .int tnv2, .ref tn_3, .ref tn_4, .ref tn_5, .ref tn_6, .int tnv7, .int tnv8, .ref tn_9, .ref tn_10, .int tnv11, .ref tn_12, .ref tn_13, .ref tn_14, .ref tn_15, .int tnv16, .ref tn_17, .ref tn_18, .ref tnt])), (tn_3, .inl (k 0, 10, .inl tng3)), (tn_4, .inl (k 0, 10, .inl tng4)), (tn_5, .inl (k 0, 10, .inl tng5)), (tn_6, .inl (k 0, 10, .inl tng6)), (tn_9, .inl (k 0, 4, .inl tng9)), (tn_10, .inl (k 0, 4, .inl tng10))]) hP hD [0, 1, 2, 3, 4, 5, 6, 7, 8, 9, 10] [] rfl rfl (by decide) (by decide) hk1 hFc hP1 hD1
        clear hK1 hP1 hD1 hPc hDc hFc
        clear hk1 hz1 ht hvm
        have hP : va_P D vwCl [(ob, .inr (3, [.ref oba, .ref ob_1])), (oba, .inr (1, [.ref oba_0, .int o_51, .int o_52])), (oba_0, .inl (k 0, 8, .inl o_53)), (ob_1, .inl (k 2, 1000, .inr (.inl o_54))), (tn, .inr (10, [.int tnv0, .int tnv1, .int tnv2, .ref tn_3, .ref tn_4, .ref tn_5, .ref tn_6, .int tnv7, .int tnv8, .ref tn_9, .ref tn_10, .int tnv11, .ref tn_12, .ref tn_13, .ref tn_14, .ref tn_15, .int tnv16, .ref tn_17, .ref tn_18, .ref tnt])), (tn_3, .inl (k 0, 10, .inl tng3)), (tn_4, .inl (k 0, 10, .inl tng4)), (tn_5, .inl (k 0, 10, .inl tng5)), (tn_6, .inl (k 0, 10, .inl tng6)), (tn_9, .inl (k 0, 4, .inl tng9)), (tn_10, .inl (k 0, 4, .inl tng10))] H1 := hP
        have hD : va_D A [(ob, .inr (3, [.ref oba, .ref ob_1])), (oba, .inr (1, [.ref oba_0, .int o_51, .int o_52])), (oba_0, .inl (k 0, 8, .inl o_53)), (ob_1, .inl (k 2, 1000, .inr (.inl o_54))), (tn, .inr (10, [.int tnv0, .int tnv1, .int tnv2, .ref tn_3, .ref tn_4, .ref tn_5, .ref tn_6, .int tnv7, .int tnv8, .ref tn_9, .ref tn_10, .int tnv11, .ref tn_12, .ref tn_13, .ref tn_14, .ref tn_15, .int tnv16, .ref tn_17, .ref tn_18, .ref tnt])), (tn_3, .inl (k 0, 10, .inl tng3)), (tn_4, .inl (k 0, 10, .inl tng4)), (tn_5, .inl (k 0, 10, .inl tng5)), (tn_6, .inl (k 0, 10, .inl tng6)), (tn_9, .inl (k 0, 4, .inl tng9)), (tn_10, .inl (k 0, 4, .inl tng10))] := hD
        generalize H1 = H at hP hS ⊢
        have hw_55 : (PR 8 1 0 0 1000000 o_53) := hw
        have hw_56 := hw_55
        clear hw
        have hP9 := hP.sub (ws' := [(ob, .inr (3, [.ref oba, .ref ob_1])), (oba, .inr (1, [.ref oba_0, .int o_51, .int o_52])), (oba_0, .inl (k 0, 8, .inl o_53)), (ob_1, .inl (k 2, 1000, .inr (.inl o_54))), (tn, .inr (10, [.int tnv0, .int tnv1, .int tnv2, .ref tn_3, .ref tn_4, .ref tn_5, .ref tn_6, .int tnv7, .int tnv8, .ref tn_9, .ref tn_10, .int tnv11, .ref tn_12, .ref tn_13, .ref tn_14, .ref tn_15, .int tnv16, .ref tn_17, .ref tn_18, .ref tnt])), (tn_3, .inl (k 0, 10, .inl tng3)), (tn_4, .inl (k 0, 10, .inl tng4)), (tn_5, .inl (k 0, 10, .inl tng5)), (tn_6, .inl (k 0, 10, .inl tng6)), (tn_9, .inl (k 0, 4, .inl tng9)), (tn_10, .inl (k 0, 4, .inl tng10))]) [0, 1, 2, 3, 4, 5, 6, 7, 8, 9, 10] rfl
        have hD9 := hD.sub (ws' := [(ob, .inr (3, [.ref oba, .ref ob_1])), (oba, .inr (1, [.ref oba_0, .int o_51, .int o_52])), (oba_0, .inl (k 0, 8, .inl o_53)), (ob_1, .inl (k 2, 1000, .inr (.inl o_54))), (tn, .inr (10, [.int tnv0, .int tnv1, .int tnv2, .ref tn_3, .ref tn_4, .ref tn_5, .ref tn_6, .int tnv7, .int tnv8, .ref tn_9, .ref tn_10, .int tnv11, .ref tn_12, .ref tn_13, .ref tn_14, .ref tn_15, .int tnv16, .ref tn_17, .ref tn_18, .ref tnt])), (tn_3, .inl (k 0, 10, .inl tng3)), (tn_4, .inl (k 0, 10, .inl tng4)), (tn_5, .inl (k 0, 10, .inl tng5)), (tn_6, .inl (k 0, 10, .inl tng6)), (tn_9, .inl (k 0, 4, .inl tng9)), (tn_10, .inl (k 0, 4, .inl tng10))]) [0, 1, 2, 3, 4, 5, 6, 7, 8, 9, 10] (by decide) rfl
        exact W.vret hx hb hr (fun tZ ht hW => ⟨⟨(o_51, o_52, o_53, o_54), rfl, hw_56, by rw [ht]; exact hP9, va_K.moved hW.alike hK, hD9⟩, hS.F ht⟩) hS.2.2 dX3_weighLanes_168
  · skip
    have zh_11 : 1000 ≤ x_10.toInt := z_nlt h_11
    have hP9 := hP.sub (ws' := [(ob, .inr (3, [.ref oba, .ref ob_1])), (oba, .inr (1, [.ref oba_0, .int o_5, .int o_6])), (oba_0, .inl (k 0, 8, .inl o_7)), (ob_1, .inl (k 2, 1000, .inr (.inl obg1))), (tn, .inr (10, [.int tnv0, .int tnv1, .int tnv2, .ref tn_3, .ref tn_4, .ref tn_5, .ref tn_6, .int tnv7, .int tnv8, .ref tn_9, .ref tn_10, .int tnv11, .ref tn_12, .ref tn_13, .ref tn_14, .ref tn_15, .int tnv16, .ref tn_17, .ref tn_18, .ref tnt])), (tn_3, .inl (k 0, 10, .inl tng3)), (tn_4, .inl (k 0, 10, .inl tng4)), (tn_5, .inl (k 0, 10, .inl tng5)), (tn_6, .inl (k 0, 10, .inl tng6)), (tn_9, .inl (k 0, 4, .inl tng9)), (tn_10, .inl (k 0, 4, .inl tng10))]) [0, 3, 4, 1, 5, 6, 7, 8, 2, 9, 10] rfl
    have hD9 := hD.sub (ws' := [(ob, .inr (3, [.ref oba, .ref ob_1])), (oba, .inr (1, [.ref oba_0, .int o_5, .int o_6])), (oba_0, .inl (k 0, 8, .inl o_7)), (ob_1, .inl (k 2, 1000, .inr (.inl obg1))), (tn, .inr (10, [.int tnv0, .int tnv1, .int tnv2, .ref tn_3, .ref tn_4, .ref tn_5, .ref tn_6, .int tnv7, .int tnv8, .ref tn_9, .ref tn_10, .int tnv11, .ref tn_12, .ref tn_13, .ref tn_14, .ref tn_15, .int tnv16, .ref tn_17, .ref tn_18, .ref tnt])), (tn_3, .inl (k 0, 10, .inl tng3)), (tn_4, .inl (k 0, 10, .inl tng4)), (tn_5, .inl (k 0, 10, .inl tng5)), (tn_6, .inl (k 0, 10, .inl tng6)), (tn_9, .inl (k 0, 4, .inl tng9)), (tn_10, .inl (k 0, 4, .inl tng10))]) [0, 3, 4, 1, 5, 6, 7, 8, 2, 9, 10] (by decide) rfl
    exact W.vret hx hb hr (fun tZ ht hW => ⟨⟨(o_5, o_6, o_7, obg1), rfl, hw_9, by rw [ht]; exact hP9, va_K.moved hW.alike hK, hD9⟩, hS.F ht⟩) hS.2.2 dX3_weighLanes_33
