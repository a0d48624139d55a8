set_option maxHeartbeats 4000000 in
set_option maxRecDepth 100000 in
theorem c_X12_houseLine (l : Launch) (D : va_G) (k : Nat → ClassId) (mo : Nat) (v0 : Int32) (m1 : Nat) (m2 : Nat) (m3 : Nat) (m4 : Nat) (m5 : Nat) (v6 : Int32) (v7 : Int32) (v8 : Int32) (v9 : Int32) (v10 : Int32) (v11 : Int64) (v12 : Int32) (v13 : Int32) (v14 : Int32) (v15 : Int32) (m16 : Nat) (m17 : Nat) (m18 : Nat) (m19 : Nat) (m20 : Nat) (m21 : Nat) (m22 : Nat) (m23 : Nat) (v24 : Int32) (m25 : Nat) (m26 : Nat) (m27 : Nat) (m28 : Nat) (m29 : Nat) (v30 : Int32) (m31 : Nat) (m32 : Nat) (m33 : Nat) (v34 : Int32) (v35 : Int32) (v36 : Int32) (m37 : Nat) (m38 : Nat) (m39 : Nat) (m40 : Nat) (v41 : Int64) (f5 : Nat → Int32) (f17 : Nat → Int32) (f18 : Nat → Int32) (f20 : Nat → Int32) (sz : Nat) (h_v6 : 0 ≤ v6.toInt ∧ v6.toInt ≤ 1000) (h_v7 : 0 ≤ v7.toInt ∧ v7.toInt ≤ 1000) (h_v24 : 0 ≤ v24.toInt ∧ v24.toInt ≤ 1023) (hp_f17_0 : PR 30 6 0 0 8 f17) (hp_f17_1 : PR 30 6 1 0 10 f17) (hp_f17_2 : PR 30 6 2 0 4 f17) (hp_f17_3 : PR 30 6 3 0 6 f17) (hp_f17_4 : PR 30 6 4 0 2 f17) (hp_f17_5 : PR 30 6 5 0 40 f17) (hp_f18_0 : PR 250 5 0 0 7 f18) (hp_f18_1 : PR 250 5 1 0 7 f18) (hp_f18_2 : PR 250 5 2 0 60 f18) (hp_f18_3 : PR 250 5 3 0 10 f18) (hp_f20_0 : PR 120 4 0 0 7 f20) (hat : v7.toInt ≤ v6.toInt) (hhas : (f17 27).toInt ≤ 5) (hTK : TK f17 f18) : Met l yX12_houseLine (ww yX12_houseLine cX12_houseLine 2 none) ({ frames := 5, cells := 0, slots := 0, locals := 112 }) (Pre0 D k [(mo, .inr (12, [.int v0, .ref m1, .ref m2, .ref m3, .ref m4, .ref m5, .int v6, .int v7, .int v8, .int v9, .int v10, .long v11, .int v12, .int v13, .int v14, .int v15, .ref m16, .ref m17, .ref m18, .ref m19, .ref m20, .ref m21, .ref m22, .ref m23, .int v24, .ref m25, .ref m26, .ref m27, .ref m28, .ref m29, .int v30, .ref m31, .ref m32, .ref m33, .int v34, .int v35, .int v36, .ref m37, .ref m38, .ref m39, .ref m40, .long v41])), (m5, .inl (k 1, 1000, .inl f5)), (m17, .inl (k 0, 30, .inl f17)), (m18, .inl (k 0, 250, .inl f18)), (m20, .inl (k 0, 120, .inl f20))] sz [.ref mo]) (va_Qv (fun (u : Int32 × Int32 × Int32 × Int32 × Int64 × Int32 × Int32 × (Nat → Int32) × (Nat → Int32)) => match u with | (v7z, v8z, v9z, v10z, v11z, v12z, v13z, f17z, f20z) => (0 ≤ v7z.toInt ∧ v7z.toInt ≤ 1000) ∧ (PR 30 6 0 0 8 f17z) ∧ (PR 30 6 1 0 10 f17z) ∧ (PR 30 6 2 0 4 f17z) ∧ (PR 30 6 3 0 6 f17z) ∧ (PR 30 6 4 0 2 f17z) ∧ (PR 30 6 5 0 40 f17z) ∧ (PR 120 4 0 0 7 f20z) ∧ (v7.toInt ≤ v7z.toInt ∧ v7z.toInt ≤ v6.toInt) ∧ (TK f17z f18)) (fun (u : Int32 × Int32 × Int32 × Int32 × Int64 × Int32 × Int32 × (Nat → Int32) × (Nat → Int32)) tZ => match u with | (v7z, v8z, v9z, v10z, v11z, v12z, v13z, f17z, f20z) => Bw D k (va_A [(mo, .inr (12, [.int v0, .ref m1, .ref m2, .ref m3, .ref m4, .ref m5, .int v6, .int v7, .int v8, .int v9, .int v10, .long v11, .int v12, .int v13, .int v14, .int v15, .ref m16, .ref m17, .ref m18, .ref m19, .ref m20, .ref m21, .ref m22, .ref m23, .int v24, .ref m25, .ref m26, .ref m27, .ref m28, .ref m29, .int v30, .ref m31, .ref m32, .ref m33, .int v34, .int v35, .int v36, .ref m37, .ref m38, .ref m39, .ref m40, .long v41])), (m5, .inl (k 1, 1000, .inl f5)), (m17, .inl (k 0, 30, .inl f17)), (m18, .inl (k 0, 250, .inl f18)), (m20, .inl (k 0, 120, .inl f20))] sz) [(mo, .inr (12, [.int v0, .ref m1, .ref m2, .ref m3, .ref m4, .ref m5, .int v6, .int v7z, .int v8z, .int v9z, .int v10z, .long v11z, .int v12z, .int v13z, .int v14, .int v15, .ref m16, .ref m17, .ref m18, .ref m19, .ref m20, .ref m21, .ref m22, .ref m23, .int v24, .ref m25, .ref m26, .ref m27, .ref m28, .ref m29, .int v30, .ref m31, .ref m32, .ref m33, .int v34, .int v35, .int v36, .ref m37, .ref m38, .ref m39, .ref m40, .long v41])), (m5, .inl (k 1, 1000, .inl f5)), (m17, .inl (k 0, 30, .inl f17z)), (m18, .inl (k 0, 250, .inl f18)), (m20, .inl (k 0, 120, .inl f20z))] tZ) (va_A [(mo, .inr (12, [.int v0, .ref m1, .ref m2, .ref m3, .ref m4, .ref m5, .int v6, .int v7, .int v8, .int v9, .int v10, .long v11, .int v12, .int v13, .int v14, .int v15, .ref m16, .ref m17, .ref m18, .ref m19, .ref m20, .ref m21, .ref m22, .ref m23, .int v24, .ref m25, .ref m26, .ref m27, .ref m28, .ref m29, .int v30, .ref m31, .ref m32, .ref m33, .int v34, .int v35, .int v36, .ref m37, .ref m38, .ref m39, .ref m40, .long v41])), (m5, .inl (k 1, 1000, .inl f5)), (m17, .inl (k 0, 30, .inl f17)), (m18, .inl (k 0, 250, .inl f18)), (m20, .inl (k 0, 120, .inl f20))] sz)) 0 0 (va_A [(mo, .inr (12, [.int v0, .ref m1, .ref m2, .ref m3, .ref m4, .ref m5, .int v6, .int v7, .int v8, .int v9, .int v10, .long v11, .int v12, .int v13, .int v14, .int v15, .ref m16, .ref m17, .ref m18, .ref m19, .ref m20, .ref m21, .ref m22, .ref m23, .int v24, .ref m25, .ref m26, .ref m27, .ref m28, .ref m29, .int v30, .ref m31, .ref m32, .ref m33, .int v34, .int v35, .int v36, .ref m37, .ref m38, .ref m39, .ref m40, .long v41])), (m5, .inl (k 1, 1000, .inl f5)), (m17, .inl (k 0, 30, .inl f17)), (m18, .inl (k 0, 250, .inl f18)), (m20, .inl (k 0, 120, .inl f20))] sz) := by
  refine Met.ofW (cc := cX12_houseLine) (maxL := 2) (ret := none) (by decide +kernel) rfl ?_
  intro p e s m args below meth c s₁ B hml hv
  obtain ⟨rfl, hsz, hP, hK, hD0, hN⟩ := hv
  have hx := B.exec
  have hb := B.bytes
  have hr := B.returns
  have hts : ∀ w ∈ TT, w.before _ s = true := fun w h => atoms_spec (ws := ww yX12_houseLine cX12_houseLine 2 none) B.pre w (List.mem_cons_of_mem _ h)
  have hown : s.vm.findClass RX12 = some m.cls := findClass_of_methodNamed B.named
  have hlocks := B.notSynchronized
  subst hsz
  have hD := hD0.self (sz := s.heap.size)
  generalize hAe : va_A [(mo, .inr (12, [.int v0, .ref m1, .ref m2, .ref m3, .ref m4, .ref m5, .int v6, .int v7, .int v8, .int v9, .int v10, .long v11, .int v12, .int v13, .int v14, .int v15, .ref m16, .ref m17, .ref m18, .ref m19, .ref m20, .ref m21, .ref m22, .ref m23, .int v24, .ref m25, .ref m26, .ref m27, .ref m28, .ref m29, .int v30, .ref m31, .ref m32, .ref m33, .int v34, .int v35, .int v36, .ref m37, .ref m38, .ref m39, .ref m40, .long v41])), (m5, .inl (k 1, 1000, .inl f5)), (m17, .inl (k 0, 30, .inl f17)), (m18, .inl (k 0, 250, .inl f18)), (m20, .inl (k 0, 120, .inl f20))] s.heap.size = A at hD ⊢
  have hA : ∀ q : Nat, s.heap.size ≤ q → A q := fun q h => by rw [← hAe]; exact Or.inr h
  have hS : va_S A s.heap s.heap [] := va_S.rf
  have hl := lv_entry ([.ref mo]) (n := 2) (Nat.le_of_ble_eq_true rfl)
  rw [lg_entry_eq]
  generalize (lg_sl ([.ref mo]) ++ List.replicate (2 - (lg_sl ([.ref mo])).length) Slot.unset).toArray = ls at hl ⊢
  have hl : lv_has ls 2 [(0, .ref mo)] := hl
  refine lv_iconst (v := 4) hx hb dX12_houseLine_0 (by decide) ?_
  refine lv_bipush (v := 24) hx hb dX12_houseLine_1 (by decide) ?_
  refine lv_aload_n hx hb dX12_houseLine_3 rfl (lv_at hl 0 rfl) ?_
  refine lv_iconst (v := 3) hx hb dX12_houseLine_4 (by decide) ?_
  obtain ⟨hPc, hDc, hFc⟩ := sub3 hP hD hS hA (ws' := [(mo, .inr (12, [.int v0, .ref m1, .ref m2, .ref m3, .ref m4, .ref m5, .int v6, .int v7, .int v8, .int v9, .int v10, .long v11, .int v12, .int v13, .int v14, .int v15, .ref m16, .ref m17, .ref m18, .ref m19, .ref m20, .ref m21, .ref m22, .ref m23, .int v24, .ref m25, .ref m26, .ref m27, .ref m28, .ref m29, .int v30, .ref m31, .ref m32, .ref m33, .int v34, .int v35, .int v36, .ref m37, .ref m38, .ref m39, .ref m40, .long v41])), (m17, .inl (k 0, 30, .inl f17))]) [0, 2] (by decide +kernel) rfl
  refine va_calli (va_runV (C := RX12) (As := [.int 3]) (rest := [.int 24, .int 4]) ⟨hx, hb, hml, hown, hts⟩ (c_X12_hasRead_3 l D k mo v0 m1 m2 m3 m4 m5 v6 v7 v8 v9 v10 v11 v12 v13 v14 v15 m16 m17 m18 m19 m20 m21 m22 m23 v24 m25 m26 m27 m28 m29 v30 m31 m32 m33 v34 v35 v36 m37 m38 m39 m40 v41 f17 s.heap.size (show 0 ≤ v6.toInt ∧ v6.toInt ≤ 1000 from by omega) (show 0 ≤ v24.toInt ∧ v24.toInt ≤ 1023 from by omega) hp_f17_0 hp_f17_1 hp_f17_2 hp_f17_3 hp_f17_4 hp_f17_5) (cwV 1 hts (gV tw_7_46 tw_7_48 tw_p_50 tw_1_13 tw_7_49) rfl rfl rfl hdV_X12_hasRead ⟨Nat.le_of_ble_eq_true rfl, Nat.le_of_ble_eq_true rfl⟩) (cz_V hK hPc hDc hN (ci := 12) (q0 := 0) rfl rfl [.int 3]) rfl rfl hl.1 rfl (lv_room (Nat.le_of_ble_eq_true rfl)) dX12_houseLine_5 ⟨Nat.le_of_ble_eq_true rfl, Nat.le_of_ble_eq_true rfl⟩) hS (fun q _ h => hFc q h) hFc (fun r_1 uZ tZ H1 locs ht hvm hw hB hz1 hk1 hS => ?_)
  obtain ⟨hP1, hK1, hD1⟩ := hB
  rw [ht] at hP1
  obtain ⟨hP, hD⟩ := va_join (wr := [(m5, .inl (k 1, 1000, .inl f5)), (m18, .inl (k 0, 250, .inl f18)), (m20, .inl (k 0, 120, .inl f20))]) (w1 := [(mo, .inr (12, [.int v0, .ref m1, .ref m2, .ref m3, .ref m4, .ref m5, .int v6, .int v7, .int v8, .int v9, .int v10, .long v11, .int v12, .int v13, .int v14, .int v15, .ref m16, .ref m17, .ref m18, .ref m19, .ref m20, .ref m21, .ref m22, .ref m23, .int v24, .ref m25, .ref m26, .ref m27, .ref m28, .ref m29, .int v30, .ref m31, .ref m32, .ref m33, .int v34, .int v35, .int v36, .ref m37, .ref m38, .ref m39, .ref m40, .long v41])), (m17, .inl (k 0, 30, .inl f17))]) hP hD [0, 2] [1, 3, 4] rfl rfl (by decide +kernel) (by decide +kernel) hk1 hFc hP1 hD1
  clear hK1 hP1 hD1 hPc hDc hFc
  clear hk1 hz1 ht hvm
  have hP : va_P D vwCl [(m5, .inl (k 1, 1000, .inl f5)), (m18, .inl (k 0, 250, .inl f18)), (m20, .inl (k 0, 120, .inl f20)), (mo, .inr (12, [.int v0, .ref m1, .ref m2, .ref m3, .ref m4, .ref m5, .int v6, .int v7, .int v8, .int v9, .int v10, .long v11, .int v12, .int v13, .int v14, .int v15, .ref m16, .ref m17, .ref m18, .ref m19, .ref m20, .ref m21, .ref m22, .ref m23, .int v24, .ref m25, .ref m26, .ref m27, .ref m28, .ref m29, .int v30, .ref m31, .ref m32, .ref m33, .int v34, .int v35, .int v36, .ref m37, .ref m38, .ref m39, .ref m40, .long v41])), (m17, .inl (k 0, 30, .inl f17))] H1 := hP
  have hD : va_D A [(m5, .inl (k 1, 1000, .inl f5)), (m18, .inl (k 0, 250, .inl f18)), (m20, .inl (k 0, 120, .inl f20)), (mo, .inr (12, [.int v0, .ref m1, .ref m2, .ref m3, .ref m4, .ref m5, .int v6, .int v7, .int v8, .int v9, .int v10, .long v11, .int v12, .int v13, .int v14, .int v15, .ref m16, .ref m17, .ref m18, .ref m19, .ref m20, .ref m21, .ref m22, .ref m23, .int v24, .ref m25, .ref m26, .ref m27, .ref m28, .ref m29, .int v30, .ref m31, .ref m32, .ref m33, .int v34, .int v35, .int v36, .ref m37, .ref m38, .ref m39, .ref m40, .long v41])), (m17, .inl (k 0, 30, .inl f17))] := hD
  generalize H1 = H at hP hS ⊢
  have hw_2 : (0 ≤ r_1.toInt ∧ r_1.toInt ≤ 6) ∧ (r_1 = f17 27) := hw
  obtain ⟨hw_3, hw_4⟩ := hw_2
  clear hw
  have zhr_1 : r_1.toInt = (f17 27).toInt := by rw [hw_4]
  refine lv_iadd hx hb dX12_houseLine_8 ?_
  refine lv_topi (fun x_5 ex_5 => ?_)
  have zx_5 : x_5.toInt = 24 + r_1.toInt := by rw [ex_5]; exact z_add rfl rfl (by omega) (by omega)
  refine lv_imul hx hb dX12_houseLine_9 ?_
  refine lv_topi (fun x_6 ex_6 => ?_)
  have zx_6 : x_6.toInt = 4 * x_5.toInt := by rw [ex_6]; exact z_mul rfl rfl (by omega) (by omega)
  refine lv_istore_n (lv' := [(1, .int x_6), (0, .ref mo)]) hx hb dX12_houseLine_10 rfl hl (by decide) rfl (fun ls hl => ?_)
  refine lv_aload_n hx hb dX12_houseLine_11 rfl (lv_at hl 1 rfl) ?_
  refine va_get (D := D) (ci := 12) (v := .ref m20) (C := RX12) (T := TX12) (N := 42) hx hb hts iT_X12 hown hK hP 3 rfl rfl 20 (by decide) (hts _ tw_6_73) (fun _ h9 => h9) rfl dX12_houseLine_12 ?_
  refine lv_iload_n hx hb dX12_houseLine_15 rfl (lv_at hl 0 rfl) ?_
  refine lv_aload_n hx hb dX12_houseLine_16 rfl (lv_at hl 1 rfl) ?_
  obtain ⟨hPc, hDc, hFc⟩ := sub3 hP hD hS hA (ws' := [(mo, .inr (12, [.int v0, .ref m1, .ref m2, .ref m3, .ref m4, .ref m5, .int v6, .int v7, .int v8, .int v9, .int v10, .long v11, .int v12, .int v13, .int v14, .int v15, .ref m16, .ref m17, .ref m18, .ref m19, .ref m20, .ref m21, .ref m22, .ref m23, .int v24, .ref m25, .ref m26, .ref m27, .ref m28, .ref m29, .int v30, .ref m31, .ref m32, .ref m33, .int v34, .int v35, .int v36, .ref m37, .ref m38, .ref m39, .ref m40, .long v41])), (m5, .inl (k 1, 1000, .inl f5)), (m17, .inl (k 0, 30, .inl f17))]) [3, 0, 4] (by decide +kernel) rfl
  refine va_calli (va_runV (C := RX12) (As := []) (rest := [.int x_6, .ref m20]) ⟨hx, hb, hml, hown, hts⟩ (c_X12_streetAt l D k mo v0 m1 m2 m3 m4 m5 v6 v7 v8 v9 v10 v11 v12 v13 v14 v15 m16 m17 m18 m19 m20 m21 m22 m23 v24 m25 m26 m27 m28 m29 v30 m31 m32 m33 v34 v35 v36 m37 m38 m39 m40 v41 f5 f17 H.size (show 0 ≤ v6.toInt ∧ v6.toInt ≤ 1000 from by omega) (show 0 ≤ v7.toInt ∧ v7.toInt ≤ 1000 from by omega) (show 0 ≤ v24.toInt ∧ v24.toInt ≤ 1023 from by omega) hp_f17_0 hp_f17_1 hp_f17_2 hp_f17_3 hp_f17_4 hp_f17_5 (show v7.toInt ≤ v6.toInt from by omega)) (cwV 0 hts (gV tw_7_63 tw_7_65 tw_p_53 tw_1_13 tw_7_66) rfl rfl rfl hdV_X12_streetAt ⟨Nat.le_of_ble_eq_true rfl, Nat.le_of_ble_eq_true rfl⟩) (cz_V hK hPc hDc hN (ci := 12) (q0 := 0) rfl rfl []) rfl rfl hl.1 rfl (lv_room (Nat.le_of_ble_eq_true rfl)) dX12_houseLine_17 ⟨Nat.le_of_ble_eq_true rfl, Nat.le_of_ble_eq_true rfl⟩) hS (fun q _ h => hFc q h) hFc (fun r_7 uZ tZ H1 locs ht hvm hw hB hz1 hk1 hS => ?_)
  obtain ⟨o_8, o_9, o_10, o_11, o_12, o_13, o_14⟩ := uZ
  obtain ⟨hP1, hK1, hD1⟩ := hB
  rw [ht] at hP1
  obtain ⟨hP, hD⟩ := va_join (wr := [(m18, .inl (k 0, 250, .inl f18)), (m20, .inl (k 0, 120, .inl f20))]) (w1 := [(mo, .inr (12, [.int v0, .ref m1, .ref m2, .ref m3, .ref m4, .ref m5, .int v6, .int o_8, .int o_9, .int o_10, .int o_11, .long o_12, .int o_13, .int o_14, .int v14, .int v15, .ref m16, .ref m17, .ref m18, .ref m19, .ref m20, .ref m21, .ref m22, .ref m23, .int v24, .ref m25, .ref m26, .ref m27, .ref m28, .ref m29, .int v30, .ref m31, .ref m32, .ref m33, .int v34, .int v35, .int v36, .ref m37, .ref m38, .ref m39, .ref m40, .long v41])), (m5, .inl (k 1, 1000, .inl f5)), (m17, .inl (k 0, 30, .inl f17))]) hP hD [3, 0, 4] [1, 2] rfl rfl (by decide +kernel) (by decide +kernel) hk1 hFc hP1 hD1
  clear hK1 hP1 hD1 hPc hDc hFc
  clear hk1 hz1 ht hvm
  have hP : va_P D vwCl [(m18, .inl (k 0, 250, .inl f18)), (m20, .inl (k 0, 120, .inl f20)), (mo, .inr (12, [.int v0, .ref m1, .ref m2, .ref m3, .ref m4, .ref m5, .int v6, .int o_8, .int o_9, .int o_10, .int o_11, .long o_12, .int o_13, .int o_14, .int v14, .int v15, .ref m16, .ref m17, .ref m18, .ref m19, .ref m20, .ref m21, .ref m22, .ref m23, .int v24, .ref m25, .ref m26, .ref m27, .ref m28, .ref m29, .int v30, .ref m31, .ref m32, .ref m33, .int v34, .int v35, .int v36, .ref m37, .ref m38, .ref m39, .ref m40, .long v41])), (m5, .inl (k 1, 1000, .inl f5)), (m17, .inl (k 0, 30, .inl f17))] H1 := hP
  have hD : va_D A [(m18, .inl (k 0, 250, .inl f18)), (m20, .inl (k 0, 120, .inl f20)), (mo, .inr (12, [.int v0, .ref m1, .ref m2, .ref m3, .ref m4, .ref m5, .int v6, .int o_8, .int o_9, .int o_10, .int o_11, .long o_12, .int o_13, .int o_14, .int v14, .int v15, .ref m16, .ref m17, .ref m18, .ref m19, .ref m20, .ref m21, .ref m22, .ref m23, .int v24, .ref m25, .ref m26, .ref m27, .ref m28, .ref m29, .int v30, .ref m31, .ref m32, .ref m33, .int v34, .int v35, .int v36, .ref m37, .ref m38, .ref m39, .ref m40, .long v41])), (m5, .inl (k 1, 1000, .inl f5)), (m17, .inl (k 0, 30, .inl f17))] := hD
  generalize H1 = H at hP hS ⊢
  have hw_15 : (0 ≤ r_7.toInt ∧ r_7.toInt ≤ 7) ∧ (0 ≤ o_8.toInt ∧ o_8.toInt ≤ 1000) ∧ (v7.toInt ≤ o_8.toInt ∧ o_8.toInt ≤ v6.toInt) := hw
  obtain ⟨hw_16, hw_17, hw_18⟩ := hw_15
  clear hw
  refine va_iast hx hb hK hP hD hS 1 0 rfl rfl (z_in (by omega) (by omega)) dX12_houseLine_20 (fun H locs hP hD hS => ?_)
  obtain ⟨g_19, eg_19⟩ : ∃ z : Nat → Int32, upd f20 x_6.toNatClampNeg r_7 = z := ⟨_, rfl⟩
  have hP : va_P D vwCl [(m18, .inl (k 0, 250, .inl f18)), (m20, .inl (k 0, 120, .inl (upd f20 x_6.toNatClampNeg r_7))), (mo, .inr (12, [.int v0, .ref m1, .ref m2, .ref m3, .ref m4, .ref m5, .int v6, .int o_8, .int o_9, .int o_10, .int o_11, .long o_12, .int o_13, .int o_14, .int v14, .int v15, .ref m16, .ref m17, .ref m18, .ref m19, .ref m20, .ref m21, .ref m22, .ref m23, .int v24, .ref m25, .ref m26, .ref m27, .ref m28, .ref m29, .int v30, .ref m31, .ref m32, .ref m33, .int v34, .int v35, .int v36, .ref m37, .ref m38, .ref m39, .ref m40, .long v41])), (m5, .inl (k 1, 1000, .inl f5)), (m17, .inl (k 0, 30, .inl f17))] H := hP
  have hD : va_D A [(m18, .inl (k 0, 250, .inl f18)), (m20, .inl (k 0, 120, .inl (upd f20 x_6.toNatClampNeg r_7))), (mo, .inr (12, [.int v0, .ref m1, .ref m2, .ref m3, .ref m4, .ref m5, .int v6, .int o_8, .int o_9, .int o_10, .int o_11, .long o_12, .int o_13, .int o_14, .int v14, .int v15, .ref m16, .ref m17, .ref m18, .ref m19, .ref m20, .ref m21, .ref m22, .ref m23, .int v24, .ref m25, .ref m26, .ref m27, .ref m28, .ref m29, .int v30, .ref m31, .ref m32, .ref m33, .int v34, .int v35, .int v36, .ref m37, .ref m38, .ref m39, .ref m40, .long v41])), (m5, .inl (k 1, 1000, .inl f5)), (m17, .inl (k 0, 30, .inl f17))] := hD
  rw [eg_19] at hP hD
  have hp_20 : PR 120 4 0 0 7 g_19 := by rw [← eg_19]; exact PR.put hp_f20_0 ⟨by omega, by omega⟩
  refine lv_aload_n hx hb dX12_houseLine_21 rfl (lv_at hl 1 rfl) ?_
  refine va_get (D := D) (ci := 12) (v := .ref m20) (C := RX12) (T := TX12) (N := 42) hx hb hts iT_X12 hown hK hP 2 rfl rfl 20 (by decide) (hts _ tw_6_73) (fun _ h9 => h9) rfl dX12_houseLine_22 ?_
  refine lv_iload_n hx hb dX12_houseLine_25 rfl (lv_at hl 0 rfl) ?_
  refine lv_iconst (v := 1) hx hb dX12_houseLine_26 (by decide) ?_
  refine lv_iadd hx hb dX12_houseLine_27 ?_
  refine lv_topi (fun x_21 ex_21 => ?_)
  have zx_21 : x_21.toInt = x_6.toInt + 1 := by rw [ex_21]; exact z_add rfl rfl (by omega) (by omega)
  refine lv_aload_n hx hb dX12_houseLine_28 rfl (lv_at hl 1 rfl) ?_
  refine lv_ldc2 (v := 12253591) hx hb hown (hts _ tw_7_74) dX12_houseLine_29 ?_
  refine lv_iconst (v := 0) hx hb dX12_houseLine_32 (by decide) ?_
  refine lv_sipush (v := 999) hx hb dX12_houseLine_33 (by decide) ?_
  obtain ⟨hPc, hDc, hFc⟩ := sub3 hP hD hS hA (ws' := [(mo, .inr (12, [.int v0, .ref m1, .ref m2, .ref m3, .ref m4, .ref m5, .int v6, .int o_8, .int o_9, .int o_10, .int o_11, .long o_12, .int o_13, .int o_14, .int v14, .int v15, .ref m16, .ref m17, .ref m18, .ref m19, .ref m20, .ref m21, .ref m22, .ref m23, .int v24, .ref m25, .ref m26, .ref m27, .ref m28, .ref m29, .int v30, .ref m31, .ref m32, .ref m33, .int v34, .int v35, .int v36, .ref m37, .ref m38, .ref m39, .ref m40, .long v41])), (m5, .inl (k 1, 1000, .inl f5))]) [2, 3] (by decide +kernel) rfl
  refine va_calli (va_runV (C := RX12) (As := [.long 12253591, .int 0, .int 999]) (rest := [.int x_21, .ref m20]) ⟨hx, hb, hml, hown, hts⟩ (c_X12_number_ l D k mo 12253591 0 999 v0 m1 m2 m3 m4 m5 v6 o_8 o_9 o_10 o_11 o_12 o_13 o_14 v14 v15 m16 m17 m18 m19 m20 m21 m22 m23 v24 m25 m26 m27 m28 m29 v30 m31 m32 m33 v34 v35 v36 m37 m38 m39 m40 v41 f5 H.size (show 0 ≤ v6.toInt ∧ v6.toInt ≤ 1000 from by omega) (show 0 ≤ o_8.toInt ∧ o_8.toInt ≤ 1000 from by omega) (show 0 ≤ v24.toInt ∧ v24.toInt ≤ 1023 from by omega) (show o_8.toInt ≤ v6.toInt from by omega)) (cwV 3 hts (gV tw_7_29 tw_7_31 tw_p_46 tw_1_13 tw_7_32) rfl rfl rfl hdV_X12_number_ ⟨Nat.le_of_ble_eq_true rfl, Nat.le_of_ble_eq_true rfl⟩) (cz_V hK hPc hDc hN (ci := 12) (q0 := 0) rfl rfl [.long 12253591, .int 0, .int 999]) rfl rfl hl.1 rfl (lv_room (Nat.le_of_ble_eq_true rfl)) dX12_houseLine_36 ⟨Nat.le_of_ble_eq_true rfl, Nat.le_of_ble_eq_true rfl⟩) hS (fun q _ h => hFc q h) hFc (fun r_22 uZ tZ H1 locs ht hvm hw hB hz1 hk1 hS => ?_)
  obtain ⟨o_23, o_24, o_25, o_26, o_27, o_28, o_29⟩ := uZ
  obtain ⟨hP1, hK1, hD1⟩ := hB
  rw [ht] at hP1
  obtain ⟨hP, hD⟩ := va_join (wr := [(m18, .inl (k 0, 250, .inl f18)), (m20, .inl (k 0, 120, .inl g_19)), (m17, .inl (k 0, 30, .inl f17))]) (w1 := [(mo, .inr (12, [.int v0, .ref m1, .ref m2, .ref m3, .ref m4, .ref m5, .int v6, .int o_23, .int o_24, .int o_25, .int o_26, .long o_27, .int o_28, .int o_29, .int v14, .int v15, .ref m16, .ref m17, .ref m18, .ref m19, .ref m20, .ref m21, .ref m22, .ref m23, .int v24, .ref m25, .ref m26, .ref m27, .ref m28, .ref m29, .int v30, .ref m31, .ref m32, .ref m33, .int v34, .int v35, .int v36, .ref m37, .ref m38, .ref m39, .ref m40, .long v41])), (m5, .inl (k 1, 1000, .inl f5))]) hP hD [2, 3] [0, 1, 4] rfl rfl (by decide +kernel) (by decide +kernel) hk1 hFc hP1 hD1
  clear hK1 hP1 hD1 hPc hDc hFc
  clear hk1 hz1 ht hvm
  have hP : va_P D vwCl [(m18, .inl (k 0, 250, .inl f18)), (m20, .inl (k 0, 120, .inl g_19)), (m17, .inl (k 0, 30, .inl f17)), (mo, .inr (12, [.int v0, .ref m1, .ref m2, .ref m3, .ref m4, .ref m5, .int v6, .int o_23, .int o_24, .int o_25, .int o_26, .long o_27, .int o_28, .int o_29, .int v14, .int v15, .ref m16, .ref m17, .ref m18, .ref m19, .ref m20, .ref m21, .ref m22, .ref m23, .int v24, .ref m25, .ref m26, .ref m27, .ref m28, .ref m29, .int v30, .ref m31, .ref m32, .ref m33, .int v34, .int v35, .int v36, .ref m37, .ref m38, .ref m39, .ref m40, .long v41])), (m5, .inl (k 1, 1000, .inl f5))] H1 := hP
  have hD : va_D A [(m18, .inl (k 0, 250, .inl f18)), (m20, .inl (k 0, 120, .inl g_19)), (m17, .inl (k 0, 30, .inl f17)), (mo, .inr (12, [.int v0, .ref m1, .ref m2, .ref m3, .ref m4, .ref m5, .int v6, .int o_23, .int o_24, .int o_25, .int o_26, .long o_27, .int o_28, .int o_29, .int v14, .int v15, .ref m16, .ref m17, .ref m18, .ref m19, .ref m20, .ref m21, .ref m22, .ref m23, .int v24, .ref m25, .ref m26, .ref m27, .ref m28, .ref m29, .int v30, .ref m31, .ref m32, .ref m33, .int v34, .int v35, .int v36, .ref m37, .ref m38, .ref m39, .ref m40, .long v41])), (m5, .inl (k 1, 1000, .inl f5))] := hD
  generalize H1 = H at hP hS ⊢
  have hw_30 : (0 ≤ o_23.toInt ∧ o_23.toInt ≤ 1000) ∧ (o_8.toInt ≤ o_23.toInt ∧ o_23.toInt ≤ v6.toInt) ∧ (r_22.toInt = 0 ∨ (0 ≤ r_22.toInt ∧ r_22.toInt ≤ 999)) := hw
  obtain ⟨hw_31, hw_32, hw_33⟩ := hw_30
  clear hw
  refine va_iast hx hb hK hP hD hS 1 0 rfl rfl (z_in (by omega) (by omega)) dX12_houseLine_39 (fun H locs hP hD hS => ?_)
  obtain ⟨g_34, eg_34⟩ : ∃ z : Nat → Int32, upd g_19 x_21.toNatClampNeg r_22 = z := ⟨_, rfl⟩
  have hP : va_P D vwCl [(m18, .inl (k 0, 250, .inl f18)), (m20, .inl (k 0, 120, .inl (upd g_19 x_21.toNatClampNeg r_22))), (m17, .inl (k 0, 30, .inl f17)), (mo, .inr (12, [.int v0, .ref m1, .ref m2, .ref m3, .ref m4, .ref m5, .int v6, .int o_23, .int o_24, .int o_25, .int o_26, .long o_27, .int o_28, .int o_29, .int v14, .int v15, .ref m16, .ref m17, .ref m18, .ref m19, .ref m20, .ref m21, .ref m22, .ref m23, .int v24, .ref m25, .ref m26, .ref m27, .ref m28, .ref m29, .int v30, .ref m31, .ref m32, .ref m33, .int v34, .int v35, .int v36, .ref m37, .ref m38, .ref m39, .ref m40, .long v41])), (m5, .inl (k 1, 1000, .inl f5))] H := hP
  have hD : va_D A [(m18, .inl (k 0, 250, .inl f18)), (m20, .inl (k 0, 120, .inl (upd g_19 x_21.toNatClampNeg r_22))), (m17, .inl (k 0, 30, .inl f17)), (mo, .inr (12, [.int v0, .ref m1, .ref m2, .ref m3, .ref m4, .ref m5, .int v6, .int o_23, .int o_24, .int o_25, .int o_26, .long o_27, .int o_28, .int o_29, .int v14, .int v15, .ref m16, .ref m17, .ref m18, .ref m19, .ref m20, .ref m21, .ref m22, .ref m23, .int v24, .ref m25, .ref m26, .ref m27, .ref m28, .ref m29, .int v30, .ref m31, .ref m32, .ref m33, .int v34, .int v35, .int v36, .ref m37, .ref m38, .ref m39, .ref m40, .long v41])), (m5, .inl (k 1, 1000, .inl f5))] := hD
  rw [eg_34] at hP hD
  have hp_35 : PR 120 4 0 0 7 g_34 := by rw [← eg_34]; exact PR.other hp_20 (z_clm (by omega) (by omega))
  refine lv_aload_n hx hb dX12_houseLine_40 rfl (lv_at hl 1 rfl) ?_
  refine va_get (D := D) (ci := 12) (v := .ref m20) (C := RX12) (T := TX12) (N := 42) hx hb hts iT_X12 hown hK hP 3 rfl rfl 20 (by decide) (hts _ tw_6_73) (fun _ h9 => h9) rfl dX12_houseLine_41 ?_
  refine lv_iload_n hx hb dX12_houseLine_44 rfl (lv_at hl 0 rfl) ?_
  refine lv_iconst (v := 2) hx hb dX12_houseLine_45 (by decide) ?_
  refine lv_iadd hx hb dX12_houseLine_46 ?_
  refine lv_topi (fun x_36 ex_36 => ?_)
  have zx_36 : x_36.toInt = x_6.toInt + 2 := by rw [ex_36]; exact z_add rfl rfl (by omega) (by omega)
  refine lv_aload_n hx hb dX12_houseLine_47 rfl (lv_at hl 1 rfl) ?_
  refine lv_ldc2 (v := 316351) hx hb hown (hts _ tw_7_75) dX12_houseLine_48 ?_
  refine lv_iconst (v := 0) hx hb dX12_houseLine_51 (by decide) ?_
  refine lv_sipush (v := 999) hx hb dX12_houseLine_52 (by decide) ?_
  obtain ⟨hPc, hDc, hFc⟩ := sub3 hP hD hS hA (ws' := [(mo, .inr (12, [.int v0, .ref m1, .ref m2, .ref m3, .ref m4, .ref m5, .int v6, .int o_23, .int o_24, .int o_25, .int o_26, .long o_27, .int o_28, .int o_29, .int v14, .int v15, .ref m16, .ref m17, .ref m18, .ref m19, .ref m20, .ref m21, .ref m22, .ref m23, .int v24, .ref m25, .ref m26, .ref m27, .ref m28, .ref m29, .int v30, .ref m31, .ref m32, .ref m33, .int v34, .int v35, .int v36, .ref m37, .ref m38, .ref m39, .ref m40, .long v41])), (m5, .inl (k 1, 1000, .inl f5))]) [3, 4] (by decide +kernel) rfl
  refine va_calli (va_runV (C := RX12) (As := [.long 316351, .int 0, .int 999]) (rest := [.int x_36, .ref m20]) ⟨hx, hb, hml, hown, hts⟩ (c_X12_number_ l D k mo 316351 0 999 v0 m1 m2 m3 m4 m5 v6 o_23 o_24 o_25 o_26 o_27 o_28 o_29 v14 v15 m16 m17 m18 m19 m20 m21 m22 m23 v24 m25 m26 m27 m28 m29 v30 m31 m32 m33 v34 v35 v36 m37 m38 m39 m40 v41 f5 H.size (show 0 ≤ v6.toInt ∧ v6.toInt ≤ 1000 from by omega) (show 0 ≤ o_23.toInt ∧ o_23.toInt ≤ 1000 from by omega) (show 0 ≤ v24.toInt ∧ v24.toInt ≤ 1023 from by omega) (show o_23.toInt ≤ v6.toInt from by omega)) (cwV 3 hts (gV tw_7_29 tw_7_31 tw_p_46 tw_1_13 tw_7_32) rfl rfl rfl hdV_X12_number_ ⟨Nat.le_of_ble_eq_true rfl, Nat.le_of_ble_eq_true rfl⟩) (cz_V hK hPc hDc hN (ci := 12) (q0 := 0) rfl rfl [.long 316351, .int 0, .int 999]) rfl rfl hl.1 rfl (lv_room (Nat.le_of_ble_eq_true rfl)) dX12_houseLine_55 ⟨Nat.le_of_ble_eq_true rfl, Nat.le_of_ble_eq_true rfl⟩) hS (fun q _ h => hFc q h) hFc (fun r_37 uZ tZ H1 locs ht hvm hw hB hz1 hk1 hS => ?_)
  obtain ⟨o_38, o_39, o_40, o_41, o_42, o_43, o_44⟩ := uZ
  obtain ⟨hP1, hK1, hD1⟩ := hB
  rw [ht] at hP1
  obtain ⟨hP, hD⟩ := va_join (wr := [(m18, .inl (k 0, 250, .inl f18)), (m20, .inl (k 0, 120, .inl g_34)), (m17, .inl (k 0, 30, .inl f17))]) (w1 := [(mo, .inr (12, [.int v0, .ref m1, .ref m2, .ref m3, .ref m4, .ref m5, .int v6, .int o_38, .int o_39, .int o_40, .int o_41, .long o_42, .int o_43, .int o_44, .int v14, .int v15, .ref m16, .ref m17, .ref m18, .ref m19, .ref m20, .ref m21, .ref m22, .ref m23, .int v24, .ref m25, .ref m26, .ref m27, .ref m28, .ref m29, .int v30, .ref m31, .ref m32, .ref m33, .int v34, .int v35, .int v36, .ref m37, .ref m38, .ref m39, .ref m40, .long v41])), (m5, .inl (k 1, 1000, .inl f5))]) hP hD [3, 4] [0, 1, 2] rfl rfl (by decide +kernel) (by decide +kernel) hk1 hFc hP1 hD1
  clear hK1 hP1 hD1 hPc hDc hFc
  clear hk1 hz1 ht hvm
  have hP : va_P D vwCl [(m18, .inl (k 0, 250, .inl f18)), (m20, .inl (k 0, 120, .inl g_34)), (m17, .inl (k 0, 30, .inl f17)), (mo, .inr (12, [.int v0, .ref m1, .ref m2, .ref m3, .ref m4, .ref m5, .int v6, .int o_38, .int o_39, .int o_40, .int o_41, .long o_42, .int o_43, .int o_44, .int v14, .int v15, .ref m16, .ref m17, .ref m18, .ref m19, .ref m20, .ref m21, .ref m22, .ref m23, .int v24, .ref m25, .ref m26, .ref m27, .ref m28, .ref m29, .int v30, .ref m31, .ref m32, .ref m33, .int v34, .int v35, .int v36, .ref m37, .ref m38, .ref m39, .ref m40, .long v41])), (m5, .inl (k 1, 1000, .inl f5))] H1 := hP
  have hD : va_D A [(m18, .inl (k 0, 250, .inl f18)), (m20, .inl (k 0, 120, .inl g_34)), (m17, .inl (k 0, 30, .inl f17)), (mo, .inr (12, [.int v0, .ref m1, .ref m2, .ref m3, .ref m4, .ref m5, .int v6, .int o_38, .int o_39, .int o_40, .int o_41, .long o_42, .int o_43, .int o_44, .int v14, .int v15, .ref m16, .ref m17, .ref m18, .ref m19, .ref m20, .ref m21, .ref m22, .ref m23, .int v24, .ref m25, .ref m26, .ref m27, .ref m28, .ref m29, .int v30, .ref m31, .ref m32, .ref m33, .int v34, .int v35, .int v36, .ref m37, .ref m38, .ref m39, .ref m40, .long v41])), (m5, .inl (k 1, 1000, .inl f5))] := hD
  generalize H1 = H at hP hS ⊢
  have hw_45 : (0 ≤ o_38.toInt ∧ o_38.toInt ≤ 1000) ∧ (o_23.toInt ≤ o_38.toInt ∧ o_38.toInt ≤ v6.toInt) ∧ (r_37.toInt = 0 ∨ (0 ≤ r_37.toInt ∧ r_37.toInt ≤ 999)) := hw
  obtain ⟨hw_46, hw_47, hw_48⟩ := hw_45
  clear hw
  refine va_iast hx hb hK hP hD hS 1 0 rfl rfl (z_in (by omega) (by omega)) dX12_houseLine_58 (fun H locs hP hD hS => ?_)
  obtain ⟨g_49, eg_49⟩ : ∃ z : Nat → Int32, upd g_34 x_36.toNatClampNeg r_37 = z := ⟨_, rfl⟩
  have hP : va_P D vwCl [(m18, .inl (k 0, 250, .inl f18)), (m20, .inl (k 0, 120, .inl (upd g_34 x_36.toNatClampNeg r_37))), (m17, .inl (k 0, 30, .inl f17)), (mo, .inr (12, [.int v0, .ref m1, .ref m2, .ref m3, .ref m4, .ref m5, .int v6, .int o_38, .int o_39, .int o_40, .int o_41, .long o_42, .int o_43, .int o_44, .int v14, .int v15, .ref m16, .ref m17, .ref m18, .ref m19, .ref m20, .ref m21, .ref m22, .ref m23, .int v24, .ref m25, .ref m26, .ref m27, .ref m28, .ref m29, .int v30, .ref m31, .ref m32, .ref m33, .int v34, .int v35, .int v36, .ref m37, .ref m38, .ref m39, .ref m40, .long v41])), (m5, .inl (k 1, 1000, .inl f5))] H := hP
  have hD : va_D A [(m18, .inl (k 0, 250, .inl f18)), (m20, .inl (k 0, 120, .inl (upd g_34 x_36.toNatClampNeg r_37))), (m17, .inl (k 0, 30, .inl f17)), (mo, .inr (12, [.int v0, .ref m1, .ref m2, .ref m3, .ref m4, .ref m5, .int v6, .int o_38, .int o_39, .int o_40, .int o_41, .long o_42, .int o_43, .int o_44, .int v14, .int v15, .ref m16, .ref m17, .ref m18, .ref m19, .ref m20, .ref m21, .ref m22, .ref m23, .int v24, .ref m25, .ref m26, .ref m27, .ref m28, .ref m29, .int v30, .ref m31, .ref m32, .ref m33, .int v34, .int v35, .int v36, .ref m37, .ref m38, .ref m39, .ref m40, .long v41])), (m5, .inl (k 1, 1000, .inl f5))] := hD
  rw [eg_49] at hP hD
  have hp_50 : PR 120 4 0 0 7 g_49 := by rw [← eg_49]; exact PR.other hp_35 (z_clm (by omega) (by omega))
  refine lv_aload_n hx hb dX12_houseLine_59 rfl (lv_at hl 1 rfl) ?_
  refine va_get (D := D) (ci := 12) (v := .ref m20) (C := RX12) (T := TX12) (N := 42) hx hb hts iT_X12 hown hK hP 3 rfl rfl 20 (by decide) (hts _ tw_6_73) (fun _ h9 => h9) rfl dX12_houseLine_60 ?_
  refine lv_iload_n hx hb dX12_houseLine_63 rfl (lv_at hl 0 rfl) ?_
  refine lv_iconst (v := 3) hx hb dX12_houseLine_64 (by decide) ?_
  refine lv_iadd hx hb dX12_houseLine_65 ?_
  refine lv_topi (fun x_51 ex_51 => ?_)
  have zx_51 : x_51.toInt = x_6.toInt + 3 := by rw [ex_51]; exact z_add rfl rfl (by omega) (by omega)
  refine lv_aload_n hx hb dX12_houseLine_66 rfl (lv_at hl 1 rfl) ?_
  refine lv_ldc2 (v := 6673393) hx hb hown (hts _ tw_7_76) dX12_houseLine_67 ?_
  refine lv_iconst (v := 0) hx hb dX12_houseLine_70 (by decide) ?_
  refine lv_bipush (v := 99) hx hb dX12_houseLine_71 (by decide) ?_
  obtain ⟨hPc, hDc, hFc⟩ := sub3 hP hD hS hA (ws' := [(mo, .inr (12, [.int v0, .ref m1, .ref m2, .ref m3, .ref m4, .ref m5, .int v6, .int o_38, .int o_39, .int o_40, .int o_41, .long o_42, .int o_43, .int o_44, .int v14, .int v15, .ref m16, .ref m17, .ref m18, .ref m19, .ref m20, .ref m21, .ref m22, .ref m23, .int v24, .ref m25, .ref m26, .ref m27, .ref m28, .ref m29, .int v30, .ref m31, .ref m32, .ref m33, .int v34, .int v35, .int v36, .ref m37, .ref m38, .ref m39, .ref m40, .long v41])), (m5, .inl (k 1, 1000, .inl f5))]) [3, 4] (by decide +kernel) rfl
  refine va_calli (va_runV (C := RX12) (As := [.long 6673393, .int 0, .int 99]) (rest := [.int x_51, .ref m20]) ⟨hx, hb, hml, hown, hts⟩ (c_X12_number_ l D k mo 6673393 0 99 v0 m1 m2 m3 m4 m5 v6 o_38 o_39 o_40 o_41 o_42 o_43 o_44 v14 v15 m16 m17 m18 m19 m20 m21 m22 m23 v24 m25 m26 m27 m28 m29 v30 m31 m32 m33 v34 v35 v36 m37 m38 m39 m40 v41 f5 H.size (show 0 ≤ v6.toInt ∧ v6.toInt ≤ 1000 from by omega) (show 0 ≤ o_38.toInt ∧ o_38.toInt ≤ 1000 from by omega) (show 0 ≤ v24.toInt ∧ v24.toInt ≤ 1023 from by omega) (show o_38.toInt ≤ v6.toInt from by omega)) (cwV 3 hts (gV tw_7_29 tw_7_31 tw_p_46 tw_1_13 tw_7_32) rfl rfl rfl hdV_X12_number_ ⟨Nat.le_of_ble_eq_true rfl, Nat.le_of_ble_eq_true rfl⟩) (cz_V hK hPc hDc hN (ci := 12) (q0 := 0) rfl rfl [.long 6673393, .int 0, .int 99]) rfl rfl hl.1 rfl (lv_room (Nat.le_of_ble_eq_true rfl)) dX12_houseLine_73 ⟨Nat.le_of_ble_eq_true rfl, Nat.le_of_ble_eq_true rfl⟩) hS (fun q _ h => hFc q h) hFc (fun r_52 uZ tZ H1 locs ht hvm hw hB hz1 hk1 hS => ?_)
  obtain ⟨o_53, o_54, o_55, o_56, o_57, o_58, o_59⟩ := uZ
  obtain ⟨hP1, hK1, hD1⟩ := hB
  rw [ht] at hP1
  obtain ⟨hP, hD⟩ := va_join (wr := [(m18, .inl (k 0, 250, .inl f18)), (m20, .inl (k 0, 120, .inl g_49)), (m17, .inl (k 0, 30, .inl f17))]) (w1 := [(mo, .inr (12, [.int v0, .ref m1, .ref m2, .ref m3, .ref m4, .ref m5, .int v6, .int o_53, .int o_54, .int o_55, .int o_56, .long o_57, .int o_58, .int o_59, .int v14, .int v15, .ref m16, .ref m17, .ref m18, .ref m19, .ref m20, .ref m21, .ref m22, .ref m23, .int v24, .ref m25, .ref m26, .ref m27, .ref m28, .ref m29, .int v30, .ref m31, .ref m32, .ref m33, .int v34, .int v35, .int v36, .ref m37, .ref m38, .ref m39, .ref m40, .long v41])), (m5, .inl (k 1, 1000, .inl f5))]) hP hD [3, 4] [0, 1, 2] rfl rfl (by decide +kernel) (by decide +kernel) hk1 hFc hP1 hD1
  clear hK1 hP1 hD1 hPc hDc hFc
  clear hk1 hz1 ht hvm
  have hP : va_P D vwCl [(m18, .inl (k 0, 250, .inl f18)), (m20, .inl (k 0, 120, .inl g_49)), (m17, .inl (k 0, 30, .inl f17)), (mo, .inr (12, [.int v0, .ref m1, .ref m2, .ref m3, .ref m4, .ref m5, .int v6, .int o_53, .int o_54, .int o_55, .int o_56, .long o_57, .int o_58, .int o_59, .int v14, .int v15, .ref m16, .ref m17, .ref m18, .ref m19, .ref m20, .ref m21, .ref m22, .ref m23, .int v24, .ref m25, .ref m26, .ref m27, .ref m28, .ref m29, .int v30, .ref m31, .ref m32, .ref m33, .int v34, .int v35, .int v36, .ref m37, .ref m38, .ref m39, .ref m40, .long v41])), (m5, .inl (k 1, 1000, .inl f5))] H1 := hP
  have hD : va_D A [(m18, .inl (k 0, 250, .inl f18)), (m20, .inl (k 0, 120, .inl g_49)), (m17, .inl (k 0, 30, .inl f17)), (mo, .inr (12, [.int v0, .ref m1, .ref m2, .ref m3, .ref m4, .ref m5, .int v6, .int o_53, .int o_54, .int o_55, .int o_56, .long o_57, .int o_58, .int o_59, .int v14, .int v15, .ref m16, .ref m17, .ref m18, .ref m19, .ref m20, .ref m21, .ref m22, .ref m23, .int v24, .ref m25, .ref m26, .ref m27, .ref m28, .ref m29, .int v30, .ref m31, .ref m32, .ref m33, .int v34, .int v35, .int v36, .ref m37, .ref m38, .ref m39, .ref m40, .long v41])), (m5, .inl (k 1, 1000, .inl f5))] := hD
  generalize H1 = H at hP hS ⊢
  have hw_60 : (0 ≤ o_53.toInt ∧ o_53.toInt ≤ 1000) ∧ (o_38.toInt ≤ o_53.toInt ∧ o_53.toInt ≤ v6.toInt) ∧ (r_52.toInt = 0 ∨ (0 ≤ r_52.toInt ∧ r_52.toInt ≤ 99)) := hw
  obtain ⟨hw_61, hw_62, hw_63⟩ := hw_60
  clear hw
  refine va_iast hx hb hK hP hD hS 1 0 rfl rfl (z_in (by omega) (by omega)) dX12_houseLine_76 (fun H locs hP hD hS => ?_)
  obtain ⟨g_64, eg_64⟩ : ∃ z : Nat → Int32, upd g_49 x_51.toNatClampNeg r_52 = z := ⟨_, rfl⟩
  have hP : va_P D vwCl [(m18, .inl (k 0, 250, .inl f18)), (m20, .inl (k 0, 120, .inl (upd g_49 x_51.toNatClampNeg r_52))), (m17, .inl (k 0, 30, .inl f17)), (mo, .inr (12, [.int v0, .ref m1, .ref m2, .ref m3, .ref m4, .ref m5, .int v6, .int o_53, .int o_54, .int o_55, .int o_56, .long o_57, .int o_58, .int o_59, .int v14, .int v15, .ref m16, .ref m17, .ref m18, .ref m19, .ref m20, .ref m21, .ref m22, .ref m23, .int v24, .ref m25, .ref m26, .ref m27, .ref m28, .ref m29, .int v30, .ref m31, .ref m32, .ref m33, .int v34, .int v35, .int v36, .ref m37, .ref m38, .ref m39, .ref m40, .long v41])), (m5, .inl (k 1, 1000, .inl f5))] H := hP
  have hD : va_D A [(m18, .inl (k 0, 250, .inl f18)), (m20, .inl (k 0, 120, .inl (upd g_49 x_51.toNatClampNeg r_52))), (m17, .inl (k 0, 30, .inl f17)), (mo, .inr (12, [.int v0, .ref m1, .ref m2, .ref m3, .ref m4, .ref m5, .int v6, .int o_53, .int o_54, .int o_55, .int o_56, .long o_57, .int o_58, .int o_59, .int v14, .int v15, .ref m16, .ref m17, .ref m18, .ref m19, .ref m20, .ref m21, .ref m22, .ref m23, .int v24, .ref m25, .ref m26, .ref m27, .ref m28, .ref m29, .int v30, .ref m31, .ref m32, .ref m33, .int v34, .int v35, .int v36, .ref m37, .ref m38, .ref m39, .ref m40, .long v41])), (m5, .inl (k 1, 1000, .inl f5))] := hD
  rw [eg_64] at hP hD
  have hp_65 : PR 120 4 0 0 7 g_64 := by rw [← eg_64]; exact PR.other hp_50 (z_clm (by omega) (by omega))
  refine lv_aload_n hx hb dX12_houseLine_77 rfl (lv_at hl 1 rfl) ?_
  refine lv_iconst (v := 3) hx hb dX12_houseLine_78 (by decide) ?_
  refine lv_aload_n hx hb dX12_houseLine_79 rfl (lv_at hl 1 rfl) ?_
  refine lv_iconst (v := 3) hx hb dX12_houseLine_80 (by decide) ?_
  obtain ⟨hPc, hDc, hFc⟩ := sub3 hP hD hS hA (ws' := [(mo, .inr (12, [.int v0, .ref m1, .ref m2, .ref m3, .ref m4, .ref m5, .int v6, .int o_53, .int o_54, .int o_55, .int o_56, .long o_57, .int o_58, .int o_59, .int v14, .int v15, .ref m16, .ref m17, .ref m18, .ref m19, .ref m20, .ref m21, .ref m22, .ref m23, .int v24, .ref m25, .ref m26, .ref m27, .ref m28, .ref m29, .int v30, .ref m31, .ref m32, .ref m33, .int v34, .int v35, .int v36, .ref m37, .ref m38, .ref m39, .ref m40, .long v41])), (m17, .inl (k 0, 30, .inl f17))]) [3, 2] (by decide +kernel) rfl
  refine va_calli (va_runV (C := RX12) (As := [.int 3]) (rest := [.int 3, .ref mo]) ⟨hx, hb, hml, hown, hts⟩ (c_X12_hasRead_3 l D k mo v0 m1 m2 m3 m4 m5 v6 o_53 o_54 o_55 o_56 o_57 o_58 o_59 v14 v15 m16 m17 m18 m19 m20 m21 m22 m23 v24 m25 m26 m27 m28 m29 v30 m31 m32 m33 v34 v35 v36 m37 m38 m39 m40 v41 f17 H.size (show 0 ≤ v6.toInt ∧ v6.toInt ≤ 1000 from by omega) (show 0 ≤ v24.toInt ∧ v24.toInt ≤ 1023 from by omega) hp_f17_0 hp_f17_1 hp_f17_2 hp_f17_3 hp_f17_4 hp_f17_5) (cwV 1 hts (gV tw_7_46 tw_7_48 tw_p_50 tw_1_13 tw_7_49) rfl rfl rfl hdV_X12_hasRead ⟨Nat.le_of_ble_eq_true rfl, Nat.le_of_ble_eq_true rfl⟩) (cz_V hK hPc hDc hN (ci := 12) (q0 := 0) rfl rfl [.int 3]) rfl rfl hl.1 rfl (lv_room (Nat.le_of_ble_eq_true rfl)) dX12_houseLine_81 ⟨Nat.le_of_ble_eq_true rfl, Nat.le_of_ble_eq_true rfl⟩) hS (fun q _ h => hFc q h) hFc (fun r_66 uZ tZ H1 locs ht hvm hw hB hz1 hk1 hS => ?_)
  obtain ⟨hP1, hK1, hD1⟩ := hB
  rw [ht] at hP1
  obtain ⟨hP, hD⟩ := va_join (wr := [(m18, .inl (k 0, 250, .inl f18)), (m20, .inl (k 0, 120, .inl g_64)), (m5, .inl (k 1, 1000, .inl f5))]) (w1 := [(mo, .inr (12, [.int v0, .ref m1, .ref m2, .ref m3, .ref m4, .ref m5, .int v6, .int o_53, .int o_54, .int o_55, .int o_56, .long o_57, .int o_58, .int o_59, .int v14, .int v15, .ref m16, .ref m17, .ref m18, .ref m19, .ref m20, .ref m21, .ref m22, .ref m23, .int v24, .ref m25, .ref m26, .ref m27, .ref m28, .ref m29, .int v30, .ref m31, .ref m32, .ref m33, .int v34, .int v35, .int v36, .ref m37, .ref m38, .ref m39, .ref m40, .long v41])), (m17, .inl (k 0, 30, .inl f17))]) hP hD [3, 2] [0, 1, 4] rfl rfl (by decide +kernel) (by decide +kernel) hk1 hFc hP1 hD1
  clear hK1 hP1 hD1 hPc hDc hFc
  clear hk1 hz1 ht hvm
  have hP : va_P D vwCl [(m18, .inl (k 0, 250, .inl f18)), (m20, .inl (k 0, 120, .inl g_64)), (m5, .inl (k 1, 1000, .inl f5)), (mo, .inr (12, [.int v0, .ref m1, .ref m2, .ref m3, .ref m4, .ref m5, .int v6, .int o_53, .int o_54, .int o_55, .int o_56, .long o_57, .int o_58, .int o_59, .int v14, .int v15, .ref m16, .ref m17, .ref m18, .ref m19, .ref m20, .ref m21, .ref m22, .ref m23, .int v24, .ref m25, .ref m26, .ref m27, .ref m28, .ref m29, .int v30, .ref m31, .ref m32, .ref m33, .int v34, .int v35, .int v36, .ref m37, .ref m38, .ref m39, .ref m40, .long v41])), (m17, .inl (k 0, 30, .inl f17))] H1 := hP
  have hD : va_D A [(m18, .inl (k 0, 250, .inl f18)), (m20, .inl (k 0, 120, .inl g_64)), (m5, .inl (k 1, 1000, .inl f5)), (mo, .inr (12, [.int v0, .ref m1, .ref m2, .ref m3, .ref m4, .ref m5, .int v6, .int o_53, .int o_54, .int o_55, .int o_56, .long o_57, .int o_58, .int o_59, .int v14, .int v15, .ref m16, .ref m17, .ref m18, .ref m19, .ref m20, .ref m21, .ref m22, .ref m23, .int v24, .ref m25, .ref m26, .ref m27, .ref m28, .ref m29, .int v30, .ref m31, .ref m32, .ref m33, .int v34, .int v35, .int v36, .ref m37, .ref m38, .ref m39, .ref m40, .long v41])), (m17, .inl (k 0, 30, .inl f17))] := hD
  generalize H1 = H at hP hS ⊢
  have hw_67 : (0 ≤ r_66.toInt ∧ r_66.toInt ≤ 6) ∧ (r_66 = f17 27) := hw
  obtain ⟨hw_68, hw_69⟩ := hw_67
  clear hw
  obtain rfl : r_1 = r_66 := hw_4.trans hw_69.symm
  refine lv_iconst (v := 1) hx hb dX12_houseLine_84 (by decide) ?_
  refine lv_iadd hx hb dX12_houseLine_85 ?_
  refine lv_topi (fun x_70 ex_70 => ?_)
  have zx_70 : x_70.toInt = r_1.toInt + 1 := by rw [ex_70]; exact z_add rfl rfl (by omega) (by omega)
  obtain ⟨hPc, hDc, hFc⟩ := sub3 hP hD hS hA (ws' := [(mo, .inr (12, [.int v0, .ref m1, .ref m2, .ref m3, .ref m4, .ref m5, .int v6, .int o_53, .int o_54, .int o_55, .int o_56, .long o_57, .int o_58, .int o_59, .int v14, .int v15, .ref m16, .ref m17, .ref m18, .ref m19, .ref m20, .ref m21, .ref m22, .ref m23, .int v24, .ref m25, .ref m26, .ref m27, .ref m28, .ref m29, .int v30, .ref m31, .ref m32, .ref m33, .int v34, .int v35, .int v36, .ref m37, .ref m38, .ref m39, .ref m40, .long v41])), (m17, .inl (k 0, 30, .inl f17))]) [3, 4] (by decide +kernel) rfl
  refine va_callv (va_runV (C := RX12) (As := [.int 3, .int x_70]) (rest := []) ⟨hx, hb, hml, hown, hts⟩ (c_X12_tells_4 l D k mo x_70 v0 m1 m2 m3 m4 m5 v6 o_53 o_54 o_55 o_56 o_57 o_58 o_59 v14 v15 m16 m17 m18 m19 m20 m21 m22 m23 v24 m25 m26 m27 m28 m29 v30 m31 m32 m33 v34 v35 v36 m37 m38 m39 m40 v41 f17 H.size (show 0 ≤ x_70.toInt ∧ x_70.toInt ≤ 6 from by omega) (show 0 ≤ v6.toInt ∧ v6.toInt ≤ 1000 from by omega) (show 0 ≤ v24.toInt ∧ v24.toInt ≤ 1023 from by omega) hp_f17_0 hp_f17_1 hp_f17_2 hp_f17_3 hp_f17_4 hp_f17_5) (cwV 2 hts (gV tw_6_226 tw_6_228 tw_p_37 tw_1_13 tw_6_229) rfl rfl rfl hdV_X12_tells ⟨Nat.le_of_ble_eq_true rfl, Nat.le_of_ble_eq_true rfl⟩) (cz_V hK hPc hDc hN (ci := 12) (q0 := 0) rfl rfl [.int 3, .int x_70]) rfl rfl hl.1 rfl (lv_room (Nat.le_of_ble_eq_true rfl)) dX12_houseLine_86 ⟨Nat.le_of_ble_eq_true rfl, Nat.le_of_ble_eq_true rfl⟩) hS (fun q _ h => hFc q h) hFc (fun uZ tZ H1 locs ht hvm hw hB hz1 hk1 hS => ?_)
  obtain ⟨o_72, rfl⟩ : ∃ z, z = uZ := ⟨_, rfl⟩
  obtain ⟨hP1, hK1, hD1⟩ := hB
  rw [ht] at hP1
  obtain ⟨hP, hD⟩ := va_join (wr := [(m18, .inl (k 0, 250, .inl f18)), (m20, .inl (k 0, 120, .inl g_64)), (m5, .inl (k 1, 1000, .inl f5))]) (w1 := [(mo, .inr (12, [.int v0, .ref m1, .ref m2, .ref m3, .ref m4, .ref m5, .int v6, .int o_53, .int o_54, .int o_55, .int o_56, .long o_57, .int o_58, .int o_59, .int v14, .int v15, .ref m16, .ref m17, .ref m18, .ref m19, .ref m20, .ref m21, .ref m22, .ref m23, .int v24, .ref m25, .ref m26, .ref m27, .ref m28, .ref m29, .int v30, .ref m31, .ref m32, .ref m33, .int v34, .int v35, .int v36, .ref m37, .ref m38, .ref m39, .ref m40, .long v41])), (m17, .inl (k 0, 30, .inl o_72))]) hP hD [3, 4] [0, 1, 2] rfl rfl (by decide +kernel) (by decide +kernel) hk1 hFc hP1 hD1
  clear hK1 hP1 hD1 hPc hDc hFc
  clear hk1 hz1 ht hvm
  have hP : va_P D vwCl [(m18, .inl (k 0, 250, .inl f18)), (m20, .inl (k 0, 120, .inl g_64)), (m5, .inl (k 1, 1000, .inl f5)), (mo, .inr (12, [.int v0, .ref m1, .ref m2, .ref m3, .ref m4, .ref m5, .int v6, .int o_53, .int o_54, .int o_55, .int o_56, .long o_57, .int o_58, .int o_59, .int v14, .int v15, .ref m16, .ref m17, .ref m18, .ref m19, .ref m20, .ref m21, .ref m22, .ref m23, .int v24, .ref m25, .ref m26, .ref m27, .ref m28, .ref m29, .int v30, .ref m31, .ref m32, .ref m33, .int v34, .int v35, .int v36, .ref m37, .ref m38, .ref m39, .ref m40, .long v41])), (m17, .inl (k 0, 30, .inl o_72))] H1 := hP
  have hD : va_D A [(m18, .inl (k 0, 250, .inl f18)), (m20, .inl (k 0, 120, .inl g_64)), (m5, .inl (k 1, 1000, .inl f5)), (mo, .inr (12, [.int v0, .ref m1, .ref m2, .ref m3, .ref m4, .ref m5, .int v6, .int o_53, .int o_54, .int o_55, .int o_56, .long o_57, .int o_58, .int o_59, .int v14, .int v15, .ref m16, .ref m17, .ref m18, .ref m19, .ref m20, .ref m21, .ref m22, .ref m23, .int v24, .ref m25, .ref m26, .ref m27, .ref m28, .ref m29, .int v30, .ref m31, .ref m32, .ref m33, .int v34, .int v35, .int v36, .ref m37, .ref m38, .ref m39, .ref m40, .long v41])), (m17, .inl (k 0, 30, .inl o_72))] := hD
  generalize H1 = H at hP hS ⊢
  have hw_73 : (PR 30 6 0 0 8 o_72) ∧ (PR 30 6 1 0 10 o_72) ∧ (PR 30 6 2 0 4 o_72) ∧ (PR 30 6 3 0 6 o_72) ∧ (PR 30 6 4 0 2 o_72) ∧ (PR 30 6 5 0 40 o_72) ∧ (o_72 = upd f17 27 x_70) := hw
  obtain ⟨hw_74, hw_75, hw_76, hw_77, hw_78, hw_79, hw_80⟩ := hw_73
  clear hw
  have tk_81 : TK o_72 f18 := by rw [hw_80]; exact TK.other hTK (by decide)
  obtain ⟨hP9, hD9⟩ := sub2 hP hD (ws' := [(mo, .inr (12, [.int v0, .ref m1, .ref m2, .ref m3, .ref m4, .ref m5, .int v6, .int o_53, .int o_54, .int o_55, .int o_56, .long o_57, .int o_58, .int o_59, .int v14, .int v15, .ref m16, .ref m17, .ref m18, .ref m19, .ref m20, .ref m21, .ref m22, .ref m23, .int v24, .ref m25, .ref m26, .ref m27, .ref m28, .ref m29, .int v30, .ref m31, .ref m32, .ref m33, .int v34, .int v35, .int v36, .ref m37, .ref m38, .ref m39, .ref m40, .long v41])), (m5, .inl (k 1, 1000, .inl f5)), (m17, .inl (k 0, 30, .inl o_72)), (m18, .inl (k 0, 250, .inl f18)), (m20, .inl (k 0, 120, .inl g_64))]) [3, 2, 4, 0, 1] (by decide +kernel) rfl
  exact W.vret hx hb hr (fun tZ ht hW => ⟨⟨(o_53, o_54, o_55, o_56, o_57, o_58, o_59, o_72, g_64), rfl, ⟨(show 0 ≤ o_53.toInt ∧ o_53.toInt ≤ 1000 from by omega), hw_74, hw_75, hw_76, hw_77, hw_78, hw_79, hp_65, (show v7.toInt ≤ o_53.toInt ∧ o_53.toInt ≤ v6.toInt from by omega), tk_81⟩, by rw [ht]; exact hP9, va_K.moved hW.alike hK, hD9⟩, hS.F ht⟩) hS.2.2 dX12_houseLine_89
set_option maxHeartbeats 4000000 in
set_option maxRecDepth 100000 in
theorem c_X12_isRoom_0 (l : Launch) (D : va_G) (k : Nat → ClassId) (mo : Nat) (p0 : Int32) (v0 : Int32) (m1 : Nat) (m2 : Nat) (m3 : Nat) (m4 : Nat) (m5 : Nat) (v6 : Int32) (v7 : Int32) (v8 : Int32) (v9 : Int32) (v10 : Int32) (v11 : Int64) (v12 : Int32) (v13 : Int32) (v14 : Int32) (v15 : Int32) (m16 : Nat) (m17 : Nat) (m18 : Nat) (m19 : Nat) (m20 : Nat) (m21 : Nat) (m22 : Nat) (m23 : Nat) (v24 : Int32) (m25 : Nat) (m26 : Nat) (m27 : Nat) (m28 : Nat) (m29 : Nat) (v30 : Int32) (m31 : Nat) (m32 : Nat) (m33 : Nat) (v34 : Int32) (v35 : Int32) (v36 : Int32) (m37 : Nat) (m38 : Nat) (m39 : Nat) (m40 : Nat) (v41 : Int64) (f5 : Nat → Int32) (f17 : Nat → Int32) (sz : Nat) (h_p0 : 0 ≤ p0.toInt ∧ p0.toInt ≤ 1) (h_v6 : 0 ≤ v6.toInt ∧ v6.toInt ≤ 1000) (h_v7 : 0 ≤ v7.toInt ∧ v7.toInt ≤ 1000) (h_v24 : 0 ≤ v24.toInt ∧ v24.toInt ≤ 1023) (hp_f17_0 : PR 30 6 0 0 8 f17) (hp_f17_1 : PR 30 6 1 0 10 f17) (hp_f17_2 : PR 30 6 2 0 4 f17) (hp_f17_3 : PR 30 6 3 0 6 f17) (hp_f17_4 : PR 30 6 4 0 2 f17) (hp_f17_5 : PR 30 6 5 0 40 f17) (hat : v7.toInt ≤ v6.toInt) : Met l yX12_isRoom (ww yX12_isRoom cX12_isRoom 4 (some .boolean)) ({ frames := 2, cells := 0, slots := 0, locals := 44 }) (Pre0 D k [(mo, .inr (12, [.int v0, .ref m1, .ref m2, .ref m3, .ref m4, .ref m5, .int v6, .int v7, .int v8, .int v9, .int v10, .long v11, .int v12, .int v13, .int v14, .int v15, .ref m16, .ref m17, .ref m18, .ref m19, .ref m20, .ref m21, .ref m22, .ref m23, .int v24, .ref m25, .ref m26, .ref m27, .ref m28, .ref m29, .int v30, .ref m31, .ref m32, .ref m33, .int v34, .int v35, .int v36, .ref m37, .ref m38, .ref m39, .ref m40, .long v41])), (m5, .inl (k 1, 1000, .inl f5)), (m17, .inl (k 0, 30, .inl f17))] sz [.ref mo, .int p0, .int 1, .int 10]) (va_Qi (fun (r : Int32) (u : Int32 × Int32 × Int32 × Int32 × Int64 × Int32 × Int32) => match u with | (v7z, v8z, v9z, v10z, v11z, v12z, v13z) => (0 ≤ r.toInt ∧ r.toInt ≤ 1) ∧ (0 ≤ v7z.toInt ∧ v7z.toInt ≤ 1000) ∧ (v7.toInt ≤ v7z.toInt ∧ v7z.toInt ≤ v6.toInt) ∧ (r.toInt = 0 ∨ (f17 25).toInt ≤ 9) ∧ (r.toInt = 0 ∨ v12z.toInt = 0)) (fun (u : Int32 × Int32 × Int32 × Int32 × Int64 × Int32 × Int32) tZ => match u with | (v7z, v8z, v9z, v10z, v11z, v12z, v13z) => Bw D k (va_A [(mo, .inr (12, [.int v0, .ref m1, .ref m2, .ref m3, .ref m4, .ref m5, .int v6, .int v7, .int v8, .int v9, .int v10, .long v11, .int v12, .int v13, .int v14, .int v15, .ref m16, .ref m17, .ref m18, .ref m19, .ref m20, .ref m21, .ref m22, .ref m23, .int v24, .ref m25, .ref m26, .ref m27, .ref m28, .ref m29, .int v30, .ref m31, .ref m32, .ref m33, .int v34, .int v35, .int v36, .ref m37, .ref m38, .ref m39, .ref m40, .long v41])), (m5, .inl (k 1, 1000, .inl f5)), (m17, .inl (k 0, 30, .inl f17))] sz) [(mo, .inr (12, [.int v0, .ref m1, .ref m2, .ref m3, .ref m4, .ref m5, .int v6, .int v7z, .int v8z, .int v9z, .int v10z, .long v11z, .int v12z, .int v13z, .int v14, .int v15, .ref m16, .ref m17, .ref m18, .ref m19, .ref m20, .ref m21, .ref m22, .ref m23, .int v24, .ref m25, .ref m26, .ref m27, .ref m28, .ref m29, .int v30, .ref m31, .ref m32, .ref m33, .int v34, .int v35, .int v36, .ref m37, .ref m38, .ref m39, .ref m40, .long v41])), (m5, .inl (k 1, 1000, .inl f5)), (m17, .inl (k 0, 30, .inl f17))] tZ) (va_A [(mo, .inr (12, [.int v0, .ref m1, .ref m2, .ref m3, .ref m4, .ref m5, .int v6, .int v7, .int v8, .int v9, .int v10, .long v11, .int v12, .int v13, .int v14, .int v15, .ref m16, .ref m17, .ref m18, .ref m19, .ref m20, .ref m21, .ref m22, .ref m23, .int v24, .ref m25, .ref m26, .ref m27, .ref m28, .ref m29, .int v30, .ref m31, .ref m32, .ref m33, .int v34, .int v35, .int v36, .ref m37, .ref m38, .ref m39, .ref m40, .long v41])), (m5, .inl (k 1, 1000, .inl f5)), (m17, .inl (k 0, 30, .inl f17))] sz)) 0 0 (va_A [(mo, .inr (12, [.int v0, .ref m1, .ref m2, .ref m3, .ref m4, .ref m5, .int v6, .int v7, .int v8, .int v9, .int v10, .long v11, .int v12, .int v13, .int v14, .int v15, .ref m16, .ref m17, .ref m18, .ref m19, .ref m20, .ref m21, .ref m22, .ref m23, .int v24, .ref m25, .ref m26, .ref m27, .ref m28, .ref m29, .int v30, .ref m31, .ref m32, .ref m33, .int v34, .int v35, .int v36, .ref m37, .ref m38, .ref m39, .ref m40, .long v41])), (m5, .inl (k 1, 1000, .inl f5)), (m17, .inl (k 0, 30, .inl f17))] sz) := by
  refine Met.ofW (cc := cX12_isRoom) (maxL := 4) (ret := (some .boolean)) (by decide +kernel) rfl ?_
  intro p e s m args below meth c s₁ B hml hv
  obtain ⟨rfl, hsz, hP, hK, hD0, hN⟩ := hv
  have hx := B.exec
  have hb := B.bytes
  have hr := B.returns
  have hts : ∀ w ∈ TT, w.before _ s = true := fun w h => atoms_spec (ws := ww yX12_isRoom cX12_isRoom 4 (some .boolean)) B.pre w (List.mem_cons_of_mem _ h)
  have hown : s.vm.findClass RX12 = some m.cls := findClass_of_methodNamed B.named
  have hlocks := B.notSynchronized
  subst hsz
  have hD := hD0.self (sz := s.heap.size)
  generalize hAe : va_A [(mo, .inr (12, [.int v0, .ref m1, .ref m2, .ref m3, .ref m4, .ref m5, .int v6, .int v7, .int v8, .int v9, .int v10, .long v11, .int v12, .int v13, .int v14, .int v15, .ref m16, .ref m17, .ref m18, .ref m19, .ref m20, .ref m21, .ref m22, .ref m23, .int v24, .ref m25, .ref m26, .ref m27, .ref m28, .ref m29, .int v30, .ref m31, .ref m32, .ref m33, .int v34, .int v35, .int v36, .ref m37, .ref m38, .ref m39, .ref m40, .long v41])), (m5, .inl (k 1, 1000, .inl f5)), (m17, .inl (k 0, 30, .inl f17))] s.heap.size = A at hD ⊢
  have hA : ∀ q : Nat, s.heap.size ≤ q → A q := fun q h => by rw [← hAe]; exact Or.inr h
  have hS : va_S A s.heap s.heap [] := va_S.rf
  have hl := lv_entry ([.ref mo, .int p0, .int 1, .int 10]) (n := 4) (Nat.le_of_ble_eq_true rfl)
  rw [lg_entry_eq]
  generalize (lg_sl ([.ref mo, .int p0, .int 1, .int 10]) ++ List.replicate (4 - (lg_sl ([.ref mo, .int p0, .int 1, .int 10])).length) Slot.unset).toArray = ls at hl ⊢
  have hl : lv_has ls 4 [(0, .ref mo), (1, .int p0), (2, .int 1), (3, .int 10)] := hl
  refine lv_iload_n hx hb dX12_isRoom_0 rfl (lv_at hl 1 rfl) ?_
  refine lv_if_eq (tgt := 18) hx hb dX12_isRoom_1 (by decide) (fun h_1 => ?_) (fun h_1 => ?_)
  · skip
    have zh_1 : p0.toInt = 0 := z_eq h_1
    refine lv_iload_n hx hb dX12_isRoom_18 rfl (lv_at hl 1 rfl) ?_
    refine lv_if_eq (tgt := 33) hx hb dX12_isRoom_19 (by decide) (fun h_2 => ?_) (fun h_2 => ?_)
    · skip
      have zh_2 : p0.toInt = 0 := z_eq h_2
      refine lv_iload_n hx hb dX12_isRoom_33 rfl (lv_at hl 1 rfl) ?_
      refine lv_if_eq (tgt := 48) hx hb dX12_isRoom_34 (by decide) (fun h_3 => ?_) (fun h_3 => ?_)
      · skip
        have zh_3 : p0.toInt = 0 := z_eq h_3
        refine lv_iconst (v := 0) hx hb dX12_isRoom_48 (by decide) ?_
        obtain ⟨hP9, hD9⟩ := sub2 hP hD (ws' := [(mo, .inr (12, [.int v0, .ref m1, .ref m2, .ref m3, .ref m4, .ref m5, .int v6, .int v7, .int v8, .int v9, .int v10, .long v11, .int v12, .int v13, .int v14, .int v15, .ref m16, .ref m17, .ref m18, .ref m19, .ref m20, .ref m21, .ref m22, .ref m23, .int v24, .ref m25, .ref m26, .ref m27, .ref m28, .ref m29, .int v30, .ref m31, .ref m32, .ref m33, .int v34, .int v35, .int v36, .ref m37, .ref m38, .ref m39, .ref m40, .long v41])), (m5, .inl (k 1, 1000, .inl f5)), (m17, .inl (k 0, 30, .inl f17))]) [0, 1, 2] (by decide +kernel) rfl
        exact W.zret (v := 0) hx hb hr (by decide) (fun tZ ht hW => ⟨⟨0, (v7, v8, v9, v10, v11, v12, v13), rfl, ⟨(show 0 ≤ 0 ∧ 0 ≤ 1 from by omega), (show 0 ≤ v7.toInt ∧ v7.toInt ≤ 1000 from by omega), (show v7.toInt ≤ v7.toInt ∧ v7.toInt ≤ v6.toInt from by omega), (Or.inl (show (0 : Int) = 0 from rfl)), (show 0 = 0 ∨ v12.toInt = 0 from by omega)⟩, by rw [ht]; exact hP9, va_K.moved hW.alike hK, hD9⟩, hS.F ht⟩) hS.2.2 dX12_isRoom_49
      · skip
        have zh_3 : ¬ p0.toInt = 0 := z_ne h_3
        exact False.elim (by omega)
    · skip
      have zh_2 : ¬ p0.toInt = 0 := z_ne h_2
      exact False.elim (by omega)
  · skip
    have zh_1 : ¬ p0.toInt = 0 := z_ne h_1
    refine lv_aload_n hx hb dX12_isRoom_4 rfl (lv_at hl 0 rfl) ?_
    refine lv_iload_n hx hb dX12_isRoom_5 rfl (lv_at hl 2 rfl) ?_
    obtain ⟨hPc, hDc, hFc⟩ := sub3 hP hD hS hA (ws' := [(mo, .inr (12, [.int v0, .ref m1, .ref m2, .ref m3, .ref m4, .ref m5, .int v6, .int v7, .int v8, .int v9, .int v10, .long v11, .int v12, .int v13, .int v14, .int v15, .ref m16, .ref m17, .ref m18, .ref m19, .ref m20, .ref m21, .ref m22, .ref m23, .int v24, .ref m25, .ref m26, .ref m27, .ref m28, .ref m29, .int v30, .ref m31, .ref m32, .ref m33, .int v34, .int v35, .int v36, .ref m37, .ref m38, .ref m39, .ref m40, .long v41])), (m17, .inl (k 0, 30, .inl f17))]) [0, 2] (by decide +kernel) rfl
    refine va_calli (va_runV (C := RX12) (As := [.int 1]) (rest := []) ⟨hx, hb, hml, hown, hts⟩ (c_X12_hasRead_1 l D k mo v0 m1 m2 m3 m4 m5 v6 v7 v8 v9 v10 v11 v12 v13 v14 v15 m16 m17 m18 m19 m20 m21 m22 m23 v24 m25 m26 m27 m28 m29 v30 m31 m32 m33 v34 v35 v36 m37 m38 m39 m40 v41 f17 s.heap.size (show 0 ≤ v6.toInt ∧ v6.toInt ≤ 1000 from by omega) (show 0 ≤ v24.toInt ∧ v24.toInt ≤ 1023 from by omega) hp_f17_0 hp_f17_1 hp_f17_2 hp_f17_3 hp_f17_4 hp_f17_5) (cwV 1 hts (gV tw_7_46 tw_7_48 tw_p_50 tw_1_13 tw_7_49) rfl rfl rfl hdV_X12_hasRead ⟨Nat.le_of_ble_eq_true rfl, Nat.le_of_ble_eq_true rfl⟩) (cz_V hK hPc hDc hN (ci := 12) (q0 := 0) rfl rfl [.int 1]) rfl rfl hl.1 rfl (lv_room (Nat.le_of_ble_eq_true rfl)) dX12_isRoom_6 ⟨Nat.le_of_ble_eq_true rfl, Nat.le_of_ble_eq_true rfl⟩) hS (fun q _ h => hFc q h) hFc (fun r_4 uZ tZ H1 locs ht hvm hw hB hz1 hk1 hS => ?_)
    obtain ⟨hP1, hK1, hD1⟩ := hB
    rw [ht] at hP1
    obtain ⟨hP, hD⟩ := va_join (wr := [(m5, .inl (k 1, 1000, .inl f5))]) (w1 := [(mo, .inr (12, [.int v0, .ref m1, .ref m2, .ref m3, .ref m4, .ref m5, .int v6, .int v7, .int v8, .int v9, .int v10, .long v11, .int v12, .int v13, .int v14, .int v15, .ref m16, .ref m17, .ref m18, .ref m19, .ref m20, .ref m21, .ref m22, .ref m23, .int v24, .ref m25, .ref m26, .ref m27, .ref m28, .ref m29, .int v30, .ref m31, .ref m32, .ref m33, .int v34, .int v35, .int v36, .ref m37, .ref m38, .ref m39, .ref m40, .long v41])), (m17, .inl (k 0, 30, .inl f17))]) hP hD [0, 2] [1] rfl rfl (by decide +kernel) (by decide +kernel) hk1 hFc hP1 hD1
    clear hK1 hP1 hD1 hPc hDc hFc
    clear hk1 hz1 ht hvm
    have hP : va_P D vwCl [(m5, .inl (k 1, 1000, .inl f5)), (mo, .inr (12, [.int v0, .ref m1, .ref m2, .ref m3, .ref m4, .ref m5, .int v6, .int v7, .int v8, .int v9, .int v10, .long v11, .int v12, .int v13, .int v14, .int v15, .ref m16, .ref m17, .ref m18, .ref m19, .ref m20, .ref m21, .ref m22, .ref m23, .int v24, .ref m25, .ref m26, .ref m27, .ref m28, .ref m29, .int v30, .ref m31, .ref m32, .ref m33, .int v34, .int v35, .int v36, .ref m37, .ref m38, .ref m39, .ref m40, .long v41])), (m17, .inl (k 0, 30, .inl f17))] H1 := hP
    have hD : va_D A [(m5, .inl (k 1, 1000, .inl f5)), (mo, .inr (12, [.int v0, .ref m1, .ref m2, .ref m3, .ref m4, .ref m5, .int v6, .int v7, .int v8, .int v9, .int v10, .long v11, .int v12, .int v13, .int v14, .int v15, .ref m16, .ref m17, .ref m18, .ref m19, .ref m20, .ref m21, .ref m22, .ref m23, .int v24, .ref m25, .ref m26, .ref m27, .ref m28, .ref m29, .int v30, .ref m31, .ref m32, .ref m33, .int v34, .int v35, .int v36, .ref m37, .ref m38, .ref m39, .ref m40, .long v41])), (m17, .inl (k 0, 30, .inl f17))] := hD
    generalize H1 = H at hP hS ⊢
    have hw_5 : (0 ≤ r_4.toInt ∧ r_4.toInt ≤ 10) ∧ (r_4 = f17 25) := hw
    obtain ⟨hw_6, hw_7⟩ := hw_5
    clear hw
    refine lv_iload_n hx hb dX12_isRoom_9 rfl (lv_at hl 3 rfl) ?_
    refine lv_icmp_ne (tgt := 18) hx hb dX12_isRoom_10 (by decide) (fun h_8 => ?_) (fun h_8 => ?_)
    · skip
      have zh_8 : ¬ r_4.toInt = 10 := z_ne h_8
      refine lv_iload_n hx hb dX12_isRoom_18 rfl (lv_at hl 1 rfl) ?_
      refine lv_if_eq (tgt := 33) hx hb dX12_isRoom_19 (by decide) (fun h_9 => ?_) (fun h_9 => ?_)
      · skip
        have zh_9 : p0.toInt = 0 := z_eq h_9
        exact False.elim (by omega)
      · skip
        have zh_9 : ¬ p0.toInt = 0 := z_ne h_9
        refine lv_aload_n hx hb dX12_isRoom_22 rfl (lv_at hl 0 rfl) ?_
        refine va_get (D := D) (ci := 12) (v := .int v12) (C := RX12) (T := TX12) (N := 42) hx hb hts iT_X12 hown hK hP 1 rfl rfl 12 (by decide) (hts _ tw_6_65) (fun _ h9 => h9) rfl dX12_isRoom_23 ?_
        refine lv_if_ne (tgt := 33) hx hb dX12_isRoom_26 (by decide) (fun h_10 => ?_) (fun h_10 => ?_)
        · skip
          have zh_10 : ¬ v12.toInt = 0 := z_ne h_10
          refine lv_iload_n hx hb dX12_isRoom_33 rfl (lv_at hl 1 rfl) ?_
          refine lv_if_eq (tgt := 48) hx hb dX12_isRoom_34 (by decide) (fun h_11 => ?_) (fun h_11 => ?_)
          · skip
            have zh_11 : p0.toInt = 0 := z_eq h_11
            exact False.elim (by omega)
          · skip
            have zh_11 : ¬ p0.toInt = 0 := z_ne h_11
            refine lv_aload_n hx hb dX12_isRoom_37 rfl (lv_at hl 0 rfl) ?_
            refine va_get (D := D) (ci := 12) (v := .int v12) (C := RX12) (T := TX12) (N := 42) hx hb hts iT_X12 hown hK hP 1 rfl rfl 12 (by decide) (hts _ tw_6_65) (fun _ h9 => h9) rfl dX12_isRoom_38 ?_
            refine lv_if_ne (tgt := 48) hx hb dX12_isRoom_41 (by decide) (fun h_12 => ?_) (fun h_12 => ?_)
            · skip
              have zh_12 : ¬ v12.toInt = 0 := z_ne h_12
              refine lv_iconst (v := 0) hx hb dX12_isRoom_48 (by decide) ?_
              obtain ⟨hP9, hD9⟩ := sub2 hP hD (ws' := [(mo, .inr (12, [.int v0, .ref m1, .ref m2, .ref m3, .ref m4, .ref m5, .int v6, .int v7, .int v8, .int v9, .int v10, .long v11, .int v12, .int v13, .int v14, .int v15, .ref m16, .ref m17, .ref m18, .ref m19, .ref m20, .ref m21, .ref m22, .ref m23, .int v24, .ref m25, .ref m26, .ref m27, .ref m28, .ref m29, .int v30, .ref m31, .ref m32, .ref m33, .int v34, .int v35, .int v36, .ref m37, .ref m38, .ref m39, .ref m40, .long v41])), (m5, .inl (k 1, 1000, .inl f5)), (m17, .inl (k 0, 30, .inl f17))]) [1, 0, 2] (by decide +kernel) rfl
              exact W.zret (v := 0) hx hb hr (by decide) (fun tZ ht hW => ⟨⟨0, (v7, v8, v9, v10, v11, v12, v13), rfl, ⟨(show 0 ≤ 0 ∧ 0 ≤ 1 from by omega), (show 0 ≤ v7.toInt ∧ v7.toInt ≤ 1000 from by omega), (show v7.toInt ≤ v7.toInt ∧ v7.toInt ≤ v6.toInt from by omega), (Or.inl (show (0 : Int) = 0 from rfl)), (show 0 = 0 ∨ v12.toInt = 0 from by omega)⟩, by rw [ht]; exact hP9, va_K.moved hW.alike hK, hD9⟩, hS.F ht⟩) hS.2.2 dX12_isRoom_49
            · skip
              have zh_12 : v12.toInt = 0 := z_eq h_12
              refine lv_iconst (v := 1) hx hb dX12_isRoom_44 (by decide) ?_
              refine lv_goto (tgt := 49) hx hb dX12_isRoom_45 (by decide) ?_
              obtain ⟨hP9, hD9⟩ := sub2 hP hD (ws' := [(mo, .inr (12, [.int v0, .ref m1, .ref m2, .ref m3, .ref m4, .ref m5, .int v6, .int v7, .int v8, .int v9, .int v10, .long v11, .int v12, .int v13, .int v14, .int v15, .ref m16, .ref m17, .ref m18, .ref m19, .ref m20, .ref m21, .ref m22, .ref m23, .int v24, .ref m25, .ref m26, .ref m27, .ref m28, .ref m29, .int v30, .ref m31, .ref m32, .ref m33, .int v34, .int v35, .int v36, .ref m37, .ref m38, .ref m39, .ref m40, .long v41])), (m5, .inl (k 1, 1000, .inl f5)), (m17, .inl (k 0, 30, .inl f17))]) [1, 0, 2] (by decide +kernel) rfl
              exact W.zret (v := 1) hx hb hr (by decide) (fun tZ ht hW => ⟨⟨1, (v7, v8, v9, v10, v11, v12, v13), rfl, ⟨(show 0 ≤ 1 ∧ 1 ≤ 1 from by omega), (show 0 ≤ v7.toInt ∧ v7.toInt ≤ 1000 from by omega), (show v7.toInt ≤ v7.toInt ∧ v7.toInt ≤ v6.toInt from by omega), (show 1 = 0 ∨ (f17 25).toInt ≤ 9 from by rw [← hw_7]; omega), (show 1 = 0 ∨ v12.toInt = 0 from by omega)⟩, by rw [ht]; exact hP9, va_K.moved hW.alike hK, hD9⟩, hS.F ht⟩) hS.2.2 dX12_isRoom_49
        · skip
          have zh_10 : v12.toInt = 0 := z_eq h_10
          refine lv_aload_n hx hb dX12_isRoom_29 rfl (lv_at hl 0 rfl) ?_
          obtain ⟨hPc, hDc, hFc⟩ := sub3 hP hD hS hA (ws' := [(mo, .inr (12, [.int v0, .ref m1, .ref m2, .ref m3, .ref m4, .ref m5, .int v6, .int v7, .int v8, .int v9, .int v10, .long v11, .int v12, .int v13, .int v14, .int v15, .ref m16, .ref m17, .ref m18, .ref m19, .ref m20, .ref m21, .ref m22, .ref m23, .int v24, .ref m25, .ref m26, .ref m27, .ref m28, .ref m29, .int v30, .ref m31, .ref m32, .ref m33, .int v34, .int v35, .int v36, .ref m37, .ref m38, .ref m39, .ref m40, .long v41])), (m5, .inl (k 1, 1000, .inl f5))]) [1, 0] (by decide +kernel) rfl
          refine va_callv (va_runV (C := RX12) (As := []) (rest := []) ⟨hx, hb, hml, hown, hts⟩ (c_X12_next l D k mo v0 m1 m2 m3 m4 m5 v6 v7 v8 v9 v10 v11 v12 v13 v14 v15 m16 m17 m18 m19 m20 m21 m22 m23 v24 m25 m26 m27 m28 m29 v30 m31 m32 m33 v34 v35 v36 m37 m38 m39 m40 v41 f5 H.size (show 0 ≤ v6.toInt ∧ v6.toInt ≤ 1000 from by omega) (show 0 ≤ v7.toInt ∧ v7.toInt ≤ 1000 from by omega) (show 0 ≤ v24.toInt ∧ v24.toInt ≤ 1023 from by omega) (show v7.toInt ≤ v6.toInt from by omega)) (cwV 0 hts (gV tw_6_234 tw_6_236 tw_p_39 tw_1_13 tw_6_237) rfl rfl rfl hdV_X12_next ⟨Nat.le_of_ble_eq_true rfl, Nat.le_of_ble_eq_true rfl⟩) (cz_V hK hPc hDc hN (ci := 12) (q0 := 0) rfl rfl []) rfl rfl hl.1 rfl (lv_room (Nat.le_of_ble_eq_true rfl)) dX12_isRoom_30 ⟨Nat.le_of_ble_eq_true rfl, Nat.le_of_ble_eq_true rfl⟩) hS (fun q _ h => hFc q h) hFc (fun uZ tZ H1 locs ht hvm hw hB hz1 hk1 hS => ?_)
          obtain ⟨o_14, o_15, o_16, o_17, o_18⟩ := uZ
          obtain ⟨hP1, hK1, hD1⟩ := hB
          rw [ht] at hP1
          obtain ⟨hP, hD⟩ := va_join (wr := [(m17, .inl (k 0, 30, .inl f17))]) (w1 := [(mo, .inr (12, [.int v0, .ref m1, .ref m2, .ref m3, .ref m4, .ref m5, .int v6, .int o_14, .int o_15, .int o_16, .int o_17, .long o_18, .int v12, .int v13, .int v14, .int v15, .ref m16, .ref m17, .ref m18, .ref m19, .ref m20, .ref m21, .ref m22, .ref m23, .int v24, .ref m25, .ref m26, .ref m27, .ref m28, .ref m29, .int v30, .ref m31, .ref m32, .ref m33, .int v34, .int v35, .int v36, .ref m37, .ref m38, .ref m39, .ref m40, .long v41])), (m5, .inl (k 1, 1000, .inl f5))]) hP hD [1, 0] [2] rfl rfl (by decide +kernel) (by decide +kernel) hk1 hFc hP1 hD1
          clear hK1 hP1 hD1 hPc hDc hFc
          clear hk1 hz1 ht hvm
          have hP : va_P D vwCl [(m17, .inl (k 0, 30, .inl f17)), (mo, .inr (12, [.int v0, .ref m1, .ref m2, .ref m3, .ref m4, .ref m5, .int v6, .int o_14, .int o_15, .int o_16, .int o_17, .long o_18, .int v12, .int v13, .int v14, .int v15, .ref m16, .ref m17, .ref m18, .ref m19, .ref m20, .ref m21, .ref m22, .ref m23, .int v24, .ref m25, .ref m26, .ref m27, .ref m28, .ref m29, .int v30, .ref m31, .ref m32, .ref m33, .int v34, .int v35, .int v36, .ref m37, .ref m38, .ref m39, .ref m40, .long v41])), (m5, .inl (k 1, 1000, .inl f5))] H1 := hP
          have hD : va_D A [(m17, .inl (k 0, 30, .inl f17)), (mo, .inr (12, [.int v0, .ref m1, .ref m2, .ref m3, .ref m4, .ref m5, .int v6, .int o_14, .int o_15, .int o_16, .int o_17, .long o_18, .int v12, .int v13, .int v14, .int v15, .ref m16, .ref m17, .ref m18, .ref m19, .ref m20, .ref m21, .ref m22, .ref m23, .int v24, .ref m25, .ref m26, .ref m27, .ref m28, .ref m29, .int v30, .ref m31, .ref m32, .ref m33, .int v34, .int v35, .int v36, .ref m37, .ref m38, .ref m39, .ref m40, .long v41])), (m5, .inl (k 1, 1000, .inl f5))] := hD
          generalize H1 = H at hP hS ⊢
          have hw_19 : (0 ≤ o_14.toInt ∧ o_14.toInt ≤ 1000) ∧ (0 ≤ o_15.toInt ∧ o_15.toInt ≤ 4) ∧ (0 ≤ o_16.toInt ∧ o_16.toInt ≤ 1000) ∧ (v7.toInt ≤ o_14.toInt ∧ o_14.toInt ≤ v6.toInt) ∧ (o_15.toInt = 0 ∨ v7.toInt < o_14.toInt) := hw
          obtain ⟨hw_20, hw_21, hw_22, hw_23, hw_24⟩ := hw_19
          clear hw
          refine lv_iload_n hx hb dX12_isRoom_33 rfl (lv_at hl 1 rfl) ?_
          refine lv_if_eq (tgt := 48) hx hb dX12_isRoom_34 (by decide) (fun h_25 => ?_) (fun h_25 => ?_)
          · skip
            have zh_25 : p0.toInt = 0 := z_eq h_25
            exact False.elim (by omega)
          · skip
            have zh_25 : ¬ p0.toInt = 0 := z_ne h_25
            refine lv_aload_n hx hb dX12_isRoom_37 rfl (lv_at hl 0 rfl) ?_
            refine va_get (D := D) (ci := 12) (v := .int v12) (C := RX12) (T := TX12) (N := 42) hx hb hts iT_X12 hown hK hP 1 rfl rfl 12 (by decide) (hts _ tw_6_65) (fun _ h9 => h9) rfl dX12_isRoom_38 ?_
            refine lv_if_ne (tgt := 48) hx hb dX12_isRoom_41 (by decide) (fun h_26 => ?_) (fun h_26 => ?_)
            · skip
              have zh_26 : ¬ v12.toInt = 0 := z_ne h_26
              exact False.elim (by omega)
            · skip
              have zh_26 : v12.toInt = 0 := z_eq h_26
              refine lv_iconst (v := 1) hx hb dX12_isRoom_44 (by decide) ?_
              refine lv_goto (tgt := 49) hx hb dX12_isRoom_45 (by decide) ?_
              obtain ⟨hP9, hD9⟩ := sub2 hP hD (ws' := [(mo, .inr (12, [.int v0, .ref m1, .ref m2, .ref m3, .ref m4, .ref m5, .int v6, .int o_14, .int o_15, .int o_16, .int o_17, .long o_18, .int v12, .int v13, .int v14, .int v15, .ref m16, .ref m17, .ref m18, .ref m19, .ref m20, .ref m21, .ref m22, .ref m23, .int v24, .ref m25, .ref m26, .ref m27, .ref m28, .ref m29, .int v30, .ref m31, .ref m32, .ref m33, .int v34, .int v35, .int v36, .ref m37, .ref m38, .ref m39, .ref m40, .long v41])), (m5, .inl (k 1, 1000, .inl f5)), (m17, .inl (k 0, 30, .inl f17))]) [1, 2, 0] (by decide +kernel) rfl
              exact W.zret (v := 1) hx hb hr (by decide) (fun tZ ht hW => ⟨⟨1, (o_14, o_15, o_16, o_17, o_18, v12, v13), rfl, ⟨(show 0 ≤ 1 ∧ 1 ≤ 1 from by omega), (show 0 ≤ o_14.toInt ∧ o_14.toInt ≤ 1000 from by omega), (show v7.toInt ≤ o_14.toInt ∧ o_14.toInt ≤ v6.toInt from by omega), (show 1 = 0 ∨ (f17 25).toInt ≤ 9 from by rw [← hw_7]; omega), (show 1 = 0 ∨ v12.toInt = 0 from by omega)⟩, by rw [ht]; exact hP9, va_K.moved hW.alike hK, hD9⟩, hS.F ht⟩) hS.2.2 dX12_isRoom_49
    · skip
      have zh_8 : r_4.toInt = 10 := z_eq h_8
      refine lv_aload_n hx hb dX12_isRoom_13 rfl (lv_at hl 0 rfl) ?_
      refine lv_iconst (v := 3) hx hb dX12_isRoom_14 (by decide) ?_
      obtain ⟨hPc, hDc, hFc⟩ := sub3 hP hD hS hA (ws' := [(mo, .inr (12, [.int v0, .ref m1, .ref m2, .ref m3, .ref m4, .ref m5, .int v6, .int v7, .int v8, .int v9, .int v10, .long v11, .int v12, .int v13, .int v14, .int v15, .ref m16, .ref m17, .ref m18, .ref m19, .ref m20, .ref m21, .ref m22, .ref m23, .int v24, .ref m25, .ref m26, .ref m27, .ref m28, .ref m29, .int v30, .ref m31, .ref m32, .ref m33, .int v34, .int v35, .int v36, .ref m37, .ref m38, .ref m39, .ref m40, .long v41]))]) [1] (by decide +kernel) rfl
      refine va_callv (va_runV (C := RX12) (As := [.int 3]) (rest := []) ⟨hx, hb, hml, hown, hts⟩ (c_X12_fails l D k mo 3 v0 m1 m2 m3 m4 m5 v6 v7 v8 v9 v10 v11 v12 v13 v14 v15 m16 m17 m18 m19 m20 m21 m22 m23 v24 m25 m26 m27 m28 m29 v30 m31 m32 m33 v34 v35 v36 m37 m38 m39 m40 v41 H.size (show 0 ≤ v6.toInt ∧ v6.toInt ≤ 1000 from by omega) (show 0 ≤ v24.toInt ∧ v24.toInt ≤ 1023 from by omega)) (cwV 1 hts (gV tw_7_24 tw_7_26 tw_p_45 tw_1_13 tw_7_27) rfl rfl rfl hdV_X12_fails ⟨Nat.le_of_ble_eq_true rfl, Nat.le_of_ble_eq_true rfl⟩) (cz_V hK hPc hDc hN (ci := 12) (q0 := 0) rfl rfl [.int 3]) rfl rfl hl.1 rfl (lv_room (Nat.le_of_ble_eq_true rfl)) dX12_isRoom_15 ⟨Nat.le_of_ble_eq_true rfl, Nat.le_of_ble_eq_true rfl⟩) hS (fun q _ h => hFc q h) hFc (fun uZ tZ H1 locs ht hvm hw hB hz1 hk1 hS => ?_)
      obtain ⟨o_28, o_29⟩ := uZ
      obtain ⟨hP1, hK1, hD1⟩ := hB
      rw [ht] at hP1
      obtain ⟨hP, hD⟩ := va_join (wr := [(m5, .inl (k 1, 1000, .inl f5)), (m17, .inl (k 0, 30, .inl f17))]) (w1 := [(mo, .inr (12, [.int v0, .ref m1, .ref m2, .ref m3, .ref m4, .ref m5, .int v6, .int v7, .int v8, .int v9, .int v10, .long v11, .int o_28, .int o_29, .int v14, .int v15, .ref m16, .ref m17, .ref m18, .ref m19, .ref m20, .ref m21, .ref m22, .ref m23, .int v24, .ref m25, .ref m26, .ref m27, .ref m28, .ref m29, .int v30, .ref m31, .ref m32, .ref m33, .int v34, .int v35, .int v36, .ref m37, .ref m38, .ref m39, .ref m40, .long v41]))]) hP hD [1] [0, 2] rfl rfl (by decide +kernel) (by decide +kernel) hk1 hFc hP1 hD1
      clear hK1 hP1 hD1 hPc hDc hFc
      clear hk1 hz1 ht hvm
      have hP : va_P D vwCl [(m5, .inl (k 1, 1000, .inl f5)), (m17, .inl (k 0, 30, .inl f17)), (mo, .inr (12, [.int v0, .ref m1, .ref m2, .ref m3, .ref m4, .ref m5, .int v6, .int v7, .int v8, .int v9, .int v10, .long v11, .int o_28, .int o_29, .int v14, .int v15, .ref m16, .ref m17, .ref m18, .ref m19, .ref m20, .ref m21, .ref m22, .ref m23, .int v24, .ref m25, .ref m26, .ref m27, .ref m28, .ref m29, .int v30, .ref m31, .ref m32, .ref m33, .int v34, .int v35, .int v36, .ref m37, .ref m38, .ref m39, .ref m40, .long v41]))] H1 := hP
      have hD : va_D A [(m5, .inl (k 1, 1000, .inl f5)), (m17, .inl (k 0, 30, .inl f17)), (mo, .inr (12, [.int v0, .ref m1, .ref m2, .ref m3, .ref m4, .ref m5, .int v6, .int v7, .int v8, .int v9, .int v10, .long v11, .int o_28, .int o_29, .int v14, .int v15, .ref m16, .ref m17, .ref m18, .ref m19, .ref m20, .ref m21, .ref m22, .ref m23, .int v24, .ref m25, .ref m26, .ref m27, .ref m28, .ref m29, .int v30, .ref m31, .ref m32, .ref m33, .int v34, .int v35, .int v36, .ref m37, .ref m38, .ref m39, .ref m40, .long v41]))] := hD
      generalize H1 = H at hP hS ⊢
      have hw_30 : ((v12.toInt = 0 ∧ o_28.toInt = 3) ∨ (¬ v12.toInt = 0 ∧ o_28.toInt = v12.toInt)) := hw
      have hw_31 := hw_30
      clear hw
      refine lv_iload_n hx hb dX12_isRoom_18 rfl (lv_at hl 1 rfl) ?_
      refine lv_if_eq (tgt := 33) hx hb dX12_isRoom_19 (by decide) (fun h_32 => ?_) (fun h_32 => ?_)
      · skip
        have zh_32 : p0.toInt = 0 := z_eq h_32
        exact False.elim (by omega)
      · skip
        have zh_32 : ¬ p0.toInt = 0 := z_ne h_32
        refine lv_aload_n hx hb dX12_isRoom_22 rfl (lv_at hl 0 rfl) ?_
        refine va_get (D := D) (ci := 12) (v := .int o_28) (C := RX12) (T := TX12) (N := 42) hx hb hts iT_X12 hown hK hP 2 rfl rfl 12 (by decide) (hts _ tw_6_65) (fun _ h9 => h9) rfl dX12_isRoom_23 ?_
        refine lv_if_ne (tgt := 33) hx hb dX12_isRoom_26 (by decide) (fun h_33 => ?_) (fun h_33 => ?_)
        · skip
          have zh_33 : ¬ o_28.toInt = 0 := z_ne h_33
          refine lv_iload_n hx hb dX12_isRoom_33 rfl (lv_at hl 1 rfl) ?_
          refine lv_if_eq (tgt := 48) hx hb dX12_isRoom_34 (by decide) (fun h_34 => ?_) (fun h_34 => ?_)
          · skip
            have zh_34 : p0.toInt = 0 := z_eq h_34
            exact False.elim (by omega)
          · skip
            have zh_34 : ¬ p0.toInt = 0 := z_ne h_34
            refine lv_aload_n hx hb dX12_isRoom_37 rfl (lv_at hl 0 rfl) ?_
            refine va_get (D := D) (ci := 12) (v := .int o_28) (C := RX12) (T := TX12) (N := 42) hx hb hts iT_X12 hown hK hP 2 rfl rfl 12 (by decide) (hts _ tw_6_65) (fun _ h9 => h9) rfl dX12_isRoom_38 ?_
            refine lv_if_ne (tgt := 48) hx hb dX12_isRoom_41 (by decide) (fun h_35 => ?_) (fun h_35 => ?_)
            · skip
              have zh_35 : ¬ o_28.toInt = 0 := z_ne h_35
              refine lv_iconst (v := 0) hx hb dX12_isRoom_48 (by decide) ?_
              obtain ⟨hP9, hD9⟩ := sub2 hP hD (ws' := [(mo, .inr (12, [.int v0, .ref m1, .ref m2, .ref m3, .ref m4, .ref m5, .int v6, .int v7, .int v8, .int v9, .int v10, .long v11, .int o_28, .int o_29, .int v14, .int v15, .ref m16, .ref m17, .ref m18, .ref m19, .ref m20, .ref m21, .ref m22, .ref m23, .int v24, .ref m25, .ref m26, .ref m27, .ref m28, .ref m29, .int v30, .ref m31, .ref m32, .ref m33, .int v34, .int v35, .int v36, .ref m37, .ref m38, .ref m39, .ref m40, .long v41])), (m5, .inl (k 1, 1000, .inl f5)), (m17, .inl (k 0, 30, .inl f17))]) [2, 0, 1] (by decide +kernel) rfl
              exact W.zret (v := 0) hx hb hr (by decide) (fun tZ ht hW => ⟨⟨0, (v7, v8, v9, v10, v11, o_28, o_29), rfl, ⟨(show 0 ≤ 0 ∧ 0 ≤ 1 from by omega), (show 0 ≤ v7.toInt ∧ v7.toInt ≤ 1000 from by omega), (show v7.toInt ≤ v7.toInt ∧ v7.toInt ≤ v6.toInt from by omega), (Or.inl (show (0 : Int) = 0 from rfl)), (show 0 = 0 ∨ o_28.toInt = 0 from by omega)⟩, by rw [ht]; exact hP9, va_K.moved hW.alike hK, hD9⟩, hS.F ht⟩) hS.2.2 dX12_isRoom_49
            · skip
              have zh_35 : o_28.toInt = 0 := z_eq h_35
              refine lv_iconst (v := 1) hx hb dX12_isRoom_44 (by decide) ?_
              refine lv_goto (tgt := 49) hx hb dX12_isRoom_45 (by decide) ?_
              obtain ⟨hP9, hD9⟩ := sub2 hP hD (ws' := [(mo, .inr (12, [.int v0, .ref m1, .ref m2, .ref m3, .ref m4, .ref m5, .int v6, .int v7, .int v8, .int v9, .int v10, .long v11, .int o_28, .int o_29, .int v14, .int v15, .ref m16, .ref m17, .ref m18, .ref m19, .ref m20, .ref m21, .ref m22, .ref m23, .int v24, .ref m25, .ref m26, .ref m27, .ref m28, .ref m29, .int v30, .ref m31, .ref m32, .ref m33, .int v34, .int v35, .int v36, .ref m37, .ref m38, .ref m39, .ref m40, .long v41])), (m5, .inl (k 1, 1000, .inl f5)), (m17, .inl (k 0, 30, .inl f17))]) [2, 0, 1] (by decide +kernel) rfl
              exact W.zret (v := 1) hx hb hr (by decide) (fun tZ ht hW => ⟨⟨1, (v7, v8, v9, v10, v11, o_28, o_29), rfl, ⟨(show 0 ≤ 1 ∧ 1 ≤ 1 from by omega), (show 0 ≤ v7.toInt ∧ v7.toInt ≤ 1000 from by omega), (show v7.toInt ≤ v7.toInt ∧ v7.toInt ≤ v6.toInt from by omega), (show 1 = 0 ∨ (f17 25).toInt ≤ 9 from by rw [← hw_7]; omega), (show 1 = 0 ∨ o_28.toInt = 0 from by omega)⟩, by rw [ht]; exact hP9, va_K.moved hW.alike hK, hD9⟩, hS.F ht⟩) hS.2.2 dX12_isRoom_49
        · skip
          have zh_33 : o_28.toInt = 0 := z_eq h_33
          refine lv_aload_n hx hb dX12_isRoom_29 rfl (lv_at hl 0 rfl) ?_
          obtain ⟨hPc, hDc, hFc⟩ := sub3 hP hD hS hA (ws' := [(mo, .inr (12, [.int v0, .ref m1, .ref m2, .ref m3, .ref m4, .ref m5, .int v6, .int v7, .int v8, .int v9, .int v10, .long v11, .int o_28, .int o_29, .int v14, .int v15, .ref m16, .ref m17, .ref m18, .ref m19, .ref m20, .ref m21, .ref m22, .ref m23, .int v24, .ref m25, .ref m26, .ref m27, .ref m28, .ref m29, .int v30, .ref m31, .ref m32, .ref m33, .int v34, .int v35, .int v36, .ref m37, .ref m38, .ref m39, .ref m40, .long v41])), (m5, .inl (k 1, 1000, .inl f5))]) [2, 0] (by decide +kernel) rfl
          refine va_callv (va_runV (C := RX12) (As := []) (rest := []) ⟨hx, hb, hml, hown, hts⟩ (c_X12_next l D k mo v0 m1 m2 m3 m4 m5 v6 v7 v8 v9 v10 v11 o_28 o_29 v14 v15 m16 m17 m18 m19 m20 m21 m22 m23 v24 m25 m26 m27 m28 m29 v30 m31 m32 m33 v34 v35 v36 m37 m38 m39 m40 v41 f5 H.size (show 0 ≤ v6.toInt ∧ v6.toInt ≤ 1000 from by omega) (show 0 ≤ v7.toInt ∧ v7.toInt ≤ 1000 from by omega) (show 0 ≤ v24.toInt ∧ v24.toInt ≤ 1023 from by omega) (show v7.toInt ≤ v6.toInt from by omega)) (cwV 0 hts (gV tw_6_234 tw_6_236 tw_p_39 tw_1_13 tw_6_237) rfl rfl rfl hdV_X12_next ⟨Nat.le_of_ble_eq_true rfl, Nat.le_of_ble_eq_true rfl⟩) (cz_V hK hPc hDc hN (ci := 12) (q0 := 0) rfl rfl []) rfl rfl hl.1 rfl (lv_room (Nat.le_of_ble_eq_true rfl)) dX12_isRoom_30 ⟨Nat.le_of_ble_eq_true rfl, Nat.le_of_ble_eq_true rfl⟩) hS (fun q _ h => hFc q h) hFc (fun uZ tZ H1 locs ht hvm hw hB hz1 hk1 hS => ?_)
          obtain ⟨o_37, o_38, o_39, o_40, o_41⟩ := uZ
          obtain ⟨hP1, hK1, hD1⟩ := hB
          rw [ht] at hP1
          obtain ⟨hP, hD⟩ := va_join (wr := [(m17, .inl (k 0, 30, .inl f17))]) (w1 := [(mo, .inr (12, [.int v0, .ref m1, .ref m2, .ref m3, .ref m4, .ref m5, .int v6, .int o_37, .int o_38, .int o_39, .int o_40, .long o_41, .int o_28, .int o_29, .int v14, .int v15, .ref m16, .ref m17, .ref m18, .ref m19, .ref m20, .ref m21, .ref m22, .ref m23, .int v24, .ref m25, .ref m26, .ref m27, .ref m28, .ref m29, .int v30, .ref m31, .ref m32, .ref m33, .int v34, .int v35, .int v36, .ref m37, .ref m38, .ref m39, .ref m40, .long v41])), (m5, .inl (k 1, 1000, .inl f5))]) hP hD [2, 0] [1] rfl rfl (by decide +kernel) (by decide +kernel) hk1 hFc hP1 hD1
          clear hK1 hP1 hD1 hPc hDc hFc
          clear hk1 hz1 ht hvm
          have hP : va_P D vwCl [(m17, .inl (k 0, 30, .inl f17)), (mo, .inr (12, [.int v0, .ref m1, .ref m2, .ref m3, .ref m4, .ref m5, .int v6, .int o_37, .int o_38, .int o_39, .int o_40, .long o_41, .int o_28, .int o_29, .int v14, .int v15, .ref m16, .ref m17, .ref m18, .ref m19, .ref m20, .ref m21, .ref m22, .ref m23, .int v24, .ref m25, .ref m26, .ref m27, .ref m28, .ref m29, .int v30, .ref m31, .ref m32, .ref m33, .int v34, .int v35, .int v36, .ref m37, .ref m38, .ref m39, .ref m40, .long v41])), (m5, .inl (k 1, 1000, .inl f5))] H1 := hP
          have hD : va_D A [(m17, .inl (k 0, 30, .inl f17)), (mo, .inr (12, [.int v0, .ref m1, .ref m2, .ref m3, .ref m4, .ref m5, .int v6, .int o_37, .int o_38, .int o_39, .int o_40, .long o_41, .int o_28, .int o_29, .int v14, .int v15, .ref m16, .ref m17, .ref m18, .ref m19, .ref m20, .ref m21, .ref m22, .ref m23, .int v24, .ref m25, .ref m26, .ref m27, .ref m28, .ref m29, .int v30, .ref m31, .ref m32, .ref m33, .int v34, .int v35, .int v36, .ref m37, .ref m38, .ref m39, .ref m40, .long v41])), (m5, .inl (k 1, 1000, .inl f5))] := hD
          generalize H1 = H at hP hS ⊢
          have hw_42 : (0 ≤ o_37.toInt ∧ o_37.toInt ≤ 1000) ∧ (0 ≤ o_38.toInt ∧ o_38.toInt ≤ 4) ∧ (0 ≤ o_39.toInt ∧ o_39.toInt ≤ 1000) ∧ (v7.toInt ≤ o_37.toInt ∧ o_37.toInt ≤ v6.toInt) ∧ (o_38.toInt = 0 ∨ v7.toInt < o_37.toInt) := hw
          obtain ⟨hw_43, hw_44, hw_45, hw_46, hw_47⟩ := hw_42
          clear hw
          refine lv_iload_n hx hb dX12_isRoom_33 rfl (lv_at hl 1 rfl) ?_
          refine lv_if_eq (tgt := 48) hx hb dX12_isRoom_34 (by decide) (fun h_48 => ?_) (fun h_48 => ?_)
          · skip
            have zh_48 : p0.toInt = 0 := z_eq h_48
            exact False.elim (by omega)
          · skip
            have zh_48 : ¬ p0.toInt = 0 := z_ne h_48
            refine lv_aload_n hx hb dX12_isRoom_37 rfl (lv_at hl 0 rfl) ?_
            refine va_get (D := D) (ci := 12) (v := .int o_28) (C := RX12) (T := TX12) (N := 42) hx hb hts iT_X12 hown hK hP 1 rfl rfl 12 (by decide) (hts _ tw_6_65) (fun _ h9 => h9) rfl dX12_isRoom_38 ?_
            refine lv_if_ne (tgt := 48) hx hb dX12_isRoom_41 (by decide) (fun h_49 => ?_) (fun h_49 => ?_)
            · skip
              have zh_49 : ¬ o_28.toInt = 0 := z_ne h_49
              exact False.elim (by omega)
            · skip
              have zh_49 : o_28.toInt = 0 := z_eq h_49
              refine lv_iconst (v := 1) hx hb dX12_isRoom_44 (by decide) ?_
              refine lv_goto (tgt := 49) hx hb dX12_isRoom_45 (by decide) ?_
              obtain ⟨hP9, hD9⟩ := sub2 hP hD (ws' := [(mo, .inr (12, [.int v0, .ref m1, .ref m2, .ref m3, .ref m4, .ref m5, .int v6, .int o_37, .int o_38, .int o_39, .int o_40, .long o_41, .int o_28, .int o_29, .int v14, .int v15, .ref m16, .ref m17, .ref m18, .ref m19, .ref m20, .ref m21, .ref m22, .ref m23, .int v24, .ref m25, .ref m26, .ref m27, .ref m28, .ref m29, .int v30, .ref m31, .ref m32, .ref m33, .int v34, .int v35, .int v36, .ref m37, .ref m38, .ref m39, .ref m40, .long v41])), (m5, .inl (k 1, 1000, .inl f5)), (m17, .inl (k 0, 30, .inl f17))]) [1, 2, 0] (by decide +kernel) rfl
              exact W.zret (v := 1) hx hb hr (by decide) (fun tZ ht hW => ⟨⟨1, (o_37, o_38, o_39, o_40, o_41, o_28, o_29), rfl, ⟨(show 0 ≤ 1 ∧ 1 ≤ 1 from by omega), (show 0 ≤ o_37.toInt ∧ o_37.toInt ≤ 1000 from by omega), (show v7.toInt ≤ o_37.toInt ∧ o_37.toInt ≤ v6.toInt from by omega), (show 1 = 0 ∨ (f17 25).toInt ≤ 9 from by rw [← hw_7]; omega), (show 1 = 0 ∨ o_28.toInt = 0 from by omega)⟩, by rw [ht]; exact hP9, va_K.moved hW.alike hK, hD9⟩, hS.F ht⟩) hS.2.2 dX12_isRoom_49
set_option maxHeartbeats 4000000 in
set_option maxRecDepth 100000 in
theorem c_X12_isRoom_1 (l : Launch) (D : va_G) (k : Nat → ClassId) (mo : Nat) (p0 : Int32) (v0 : Int32) (m1 : Nat) (m2 : Nat) (m3 : Nat) (m4 : Nat) (m5 : Nat) (v6 : Int32) (v7 : Int32) (v8 : Int32) (v9 : Int32) (v10 : Int32) (v11 : Int64) (v12 : Int32) (v13 : Int32) (v14 : Int32) (v15 : Int32) (m16 : Nat) (m17 : Nat) (m18 : Nat) (m19 : Nat) (m20 : Nat) (m21 : Nat) (m22 : Nat) (m23 : Nat) (v24 : Int32) (m25 : Nat) (m26 : Nat) (m27 : Nat) (m28 : Nat) (m29 : Nat) (v30 : Int32) (m31 : Nat) (m32 : Nat) (m33 : Nat) (v34 : Int32) (v35 : Int32) (v36 : Int32) (m37 : Nat) (m38 : Nat) (m39 : Nat) (m40 : Nat) (v41 : Int64) (f5 : Nat → Int32) (f17 : Nat → Int32) (sz : Nat) (h_p0 : 0 ≤ p0.toInt ∧ p0.toInt ≤ 1) (h_v6 : 0 ≤ v6.toInt ∧ v6.toInt ≤ 1000) (h_v7 : 0 ≤ v7.toInt ∧ v7.toInt ≤ 1000) (h_v24 : 0 ≤ v24.toInt ∧ v24.toInt ≤ 1023) (hp_f17_0 : PR 30 6 0 0 8 f17) (hp_f17_1 : PR 30 6 1 0 10 f17) (hp_f17_2 : PR 30 6 2 0 4 f17) (hp_f17_3 : PR 30 6 3 0 6 f17) (hp_f17_4 : PR 30 6 4 0 2 f17) (hp_f17_5 : PR 30 6 5 0 40 f17) (hat : v7.toInt ≤ v6.toInt) : Met l yX12_isRoom (ww yX12_isRoom cX12_isRoom 4 (some .boolean)) ({ frames := 2, cells := 0, slots := 0, locals := 44 }) (Pre0 D k [(mo, .inr (12, [.int v0, .ref m1, .ref m2, .ref m3, .ref m4, .ref m5, .int v6, .int v7, .int v8, .int v9, .int v10, .long v11, .int v12, .int v13, .int v14, .int v15, .ref m16, .ref m17, .ref m18, .ref m19, .ref m20, .ref m21, .ref m22, .ref m23, .int v24, .ref m25, .ref m26, .ref m27, .ref m28, .ref m29, .int v30, .ref m31, .ref m32, .ref m33, .int v34, .int v35, .int v36, .ref m37, .ref m38, .ref m39, .ref m40, .long v41])), (m5, .inl (k 1, 1000, .inl f5)), (m17, .inl (k 0, 30, .inl f17))] sz [.ref mo, .int p0, .int 2, .int 4]) (va_Qi (fun (r : Int32) (u : Int32 × Int32 × Int32 × Int32 × Int64 × Int32 × Int32) => match u with | (v7z, v8z, v9z, v10z, v11z, v12z, v13z) => (0 ≤ r.toInt ∧ r.toInt ≤ 1) ∧ (0 ≤ v7z.toInt ∧ v7z.toInt ≤ 1000) ∧ (v7.toInt ≤ v7z.toInt ∧ v7z.toInt ≤ v6.toInt) ∧ (r.toInt = 0 ∨ (f17 26).toInt ≤ 3) ∧ (r.toInt = 0 ∨ v12z.toInt = 0)) (fun (u : Int32 × Int32 × Int32 × Int32 × Int64 × Int32 × Int32) tZ => match u with | (v7z, v8z, v9z, v10z, v11z, v12z, v13z) => Bw D k (va_A [(mo, .inr (12, [.int v0, .ref m1, .ref m2, .ref m3, .ref m4, .ref m5, .int v6, .int v7, .int v8, .int v9, .int v10, .long v11, .int v12, .int v13, .int v14, .int v15, .ref m16, .ref m17, .ref m18, .ref m19, .ref m20, .ref m21, .ref m22, .ref m23, .int v24, .ref m25, .ref m26, .ref m27, .ref m28, .ref m29, .int v30, .ref m31, .ref m32, .ref m33, .int v34, .int v35, .int v36, .ref m37, .ref m38, .ref m39, .ref m40, .long v41])), (m5, .inl (k 1, 1000, .inl f5)), (m17, .inl (k 0, 30, .inl f17))] sz) [(mo, .inr (12, [.int v0, .ref m1, .ref m2, .ref m3, .ref m4, .ref m5, .int v6, .int v7z, .int v8z, .int v9z, .int v10z, .long v11z, .int v12z, .int v13z, .int v14, .int v15, .ref m16, .ref m17, .ref m18, .ref m19, .ref m20, .ref m21, .ref m22, .ref m23, .int v24, .ref m25, .ref m26, .ref m27, .ref m28, .ref m29, .int v30, .ref m31, .ref m32, .ref m33, .int v34, .int v35, .int v36, .ref m37, .ref m38, .ref m39, .ref m40, .long v41])), (m5, .inl (k 1, 1000, .inl f5)), (m17, .inl (k 0, 30, .inl f17))] tZ) (va_A [(mo, .inr (12, [.int v0, .ref m1, .ref m2, .ref m3, .ref m4, .ref m5, .int v6, .int v7, .int v8, .int v9, .int v10, .long v11, .int v12, .int v13, .int v14, .int v15, .ref m16, .ref m17, .ref m18, .ref m19, .ref m20, .ref m21, .ref m22, .ref m23, .int v24, .ref m25, .ref m26, .ref m27, .ref m28, .ref m29, .int v30, .ref m31, .ref m32, .ref m33, .int v34, .int v35, .int v36, .ref m37, .ref m38, .ref m39, .ref m40, .long v41])), (m5, .inl (k 1, 1000, .inl f5)), (m17, .inl (k 0, 30, .inl f17))] sz)) 0 0 (va_A [(mo, .inr (12, [.int v0, .ref m1, .ref m2, .ref m3, .ref m4, .ref m5, .int v6, .int v7, .int v8, .int v9, .int v10, .long v11, .int v12, .int v13, .int v14, .int v15, .ref m16, .ref m17, .ref m18, .ref m19, .ref m20, .ref m21, .ref m22, .ref m23, .int v24, .ref m25, .ref m26, .ref m27, .ref m28, .ref m29, .int v30, .ref m31, .ref m32, .ref m33, .int v34, .int v35, .int v36, .ref m37, .ref m38, .ref m39, .ref m40, .long v41])), (m5, .inl (k 1, 1000, .inl f5)), (m17, .inl (k 0, 30, .inl f17))] sz) := by
  refine Met.ofW (cc := cX12_isRoom) (maxL := 4) (ret := (some .boolean)) (by decide +kernel) rfl ?_
  intro p e s m args below meth c s₁ B hml hv
  obtain ⟨rfl, hsz, hP, hK, hD0, hN⟩ := hv
  have hx := B.exec
  have hb := B.bytes
  have hr := B.returns
  have hts : ∀ w ∈ TT, w.before _ s = true := fun w h => atoms_spec (ws := ww yX12_isRoom cX12_isRoom 4 (some .boolean)) B.pre w (List.mem_cons_of_mem _ h)
  have hown : s.vm.findClass RX12 = some m.cls := findClass_of_methodNamed B.named
  have hlocks := B.notSynchronized
  subst hsz
  have hD := hD0.self (sz := s.heap.size)
  generalize hAe : va_A [(mo, .inr (12, [.int v0, .ref m1, .ref m2, .ref m3, .ref m4, .ref m5, .int v6, .int v7, .int v8, .int v9, .int v10, .long v11, .int v12, .int v13, .int v14, .int v15, .ref m16, .ref m17, .ref m18, .ref m19, .ref m20, .ref m21, .ref m22, .ref m23, .int v24, .ref m25, .ref m26, .ref m27, .ref m28, .ref m29, .int v30, .ref m31, .ref m32, .ref m33, .int v34, .int v35, .int v36, .ref m37, .ref m38, .ref m39, .ref m40, .long v41])), (m5, .inl (k 1, 1000, .inl f5)), (m17, .inl (k 0, 30, .inl f17))] s.heap.size = A at hD ⊢
  have hA : ∀ q : Nat, s.heap.size ≤ q → A q := fun q h => by rw [← hAe]; exact Or.inr h
  have hS : va_S A s.heap s.heap [] := va_S.rf
  have hl := lv_entry ([.ref mo, .int p0, .int 2, .int 4]) (n := 4) (Nat.le_of_ble_eq_true rfl)
  rw [lg_entry_eq]
  generalize (lg_sl ([.ref mo, .int p0, .int 2, .int 4]) ++ List.replicate (4 - (lg_sl ([.ref mo, .int p0, .int 2, .int 4])).length) Slot.unset).toArray = ls at hl ⊢
  have hl : lv_has ls 4 [(0, .ref mo), (1, .int p0), (2, .int 2), (3, .int 4)] := hl
  refine lv_iload_n hx hb dX12_isRoom_0 rfl (lv_at hl 1 rfl) ?_
  refine lv_if_eq (tgt := 18) hx hb dX12_isRoom_1 (by decide) (fun h_1 => ?_) (fun h_1 => ?_)
  · skip
    have zh_1 : p0.toInt = 0 := z_eq h_1
    refine lv_iload_n hx hb dX12_isRoom_18 rfl (lv_at hl 1 rfl) ?_
    refine lv_if_eq (tgt := 33) hx hb dX12_isRoom_19 (by decide) (fun h_2 => ?_) (fun h_2 => ?_)
    · skip
      have zh_2 : p0.toInt = 0 := z_eq h_2
      refine lv_iload_n hx hb dX12_isRoom_33 rfl (lv_at hl 1 rfl) ?_
      refine lv_if_eq (tgt := 48) hx hb dX12_isRoom_34 (by decide) (fun h_3 => ?_) (fun h_3 => ?_)
      · skip
        have zh_3 : p0.toInt = 0 := z_eq h_3
        refine lv_iconst (v := 0) hx hb dX12_isRoom_48 (by decide) ?_
        obtain ⟨hP9, hD9⟩ := sub2 hP hD (ws' := [(mo, .inr (12, [.int v0, .ref m1, .ref m2, .ref m3, .ref m4, .ref m5, .int v6, .int v7, .int v8, .int v9, .int v10, .long v11, .int v12, .int v13, .int v14, .int v15, .ref m16, .ref m17, .ref m18, .ref m19, .ref m20, .ref m21, .ref m22, .ref m23, .int v24, .ref m25, .ref m26, .ref m27, .ref m28, .ref m29, .int v30, .ref m31, .ref m32, .ref m33, .int v34, .int v35, .int v36, .ref m37, .ref m38, .ref m39, .ref m40, .long v41])), (m5, .inl (k 1, 1000, .inl f5)), (m17, .inl (k 0, 30, .inl f17))]) [0, 1, 2] (by decide +kernel) rfl
        exact W.zret (v := 0) hx hb hr (by decide) (fun tZ ht hW => ⟨⟨0, (v7, v8, v9, v10, v11, v12, v13), rfl, ⟨(show 0 ≤ 0 ∧ 0 ≤ 1 from by omega), (show 0 ≤ v7.toInt ∧ v7.toInt ≤ 1000 from by omega), (show v7.toInt ≤ v7.toInt ∧ v7.toInt ≤ v6.toInt from by omega), (Or.inl (show (0 : Int) = 0 from rfl)), (show 0 = 0 ∨ v12.toInt = 0 from by omega)⟩, by rw [ht]; exact hP9, va_K.moved hW.alike hK, hD9⟩, hS.F ht⟩) hS.2.2 dX12_isRoom_49
      · skip
        have zh_3 : ¬ p0.toInt = 0 := z_ne h_3
        exact False.elim (by omega)
    · skip
      have zh_2 : ¬ p0.toInt = 0 := z_ne h_2
      exact False.elim (by omega)
  · skip
    have zh_1 : ¬ p0.toInt = 0 := z_ne h_1
    refine lv_aload_n hx hb dX12_isRoom_4 rfl (lv_at hl 0 rfl) ?_
    refine lv_iload_n hx hb dX12_isRoom_5 rfl (lv_at hl 2 rfl) ?_
    obtain ⟨hPc, hDc, hFc⟩ := sub3 hP hD hS hA (ws' := [(mo, .inr (12, [.int v0, .ref m1, .ref m2, .ref m3, .ref m4, .ref m5, .int v6, .int v7, .int v8, .int v9, .int v10, .long v11, .int v12, .int v13, .int v14, .int v15, .ref m16, .ref m17, .ref m18, .ref m19, .ref m20, .ref m21, .ref m22, .ref m23, .int v24, .ref m25, .ref m26, .ref m27, .ref m28, .ref m29, .int v30, .ref m31, .ref m32, .ref m33, .int v34, .int v35, .int v36, .ref m37, .ref m38, .ref m39, .ref m40, .long v41])), (m17, .inl (k 0, 30, .inl f17))]) [0, 2] (by decide +kernel) rfl
    refine va_calli (va_runV (C := RX12) (As := [.int 2]) (rest := []) ⟨hx, hb, hml, hown, hts⟩ (c_X12_hasRead_2 l D k mo v0 m1 m2 m3 m4 m5 v6 v7 v8 v9 v10 v11 v12 v13 v14 v15 m16 m17 m18 m19 m20 m21 m22 m23 v24 m25 m26 m27 m28 m29 v30 m31 m32 m33 v34 v35 v36 m37 m38 m39 m40 v41 f17 s.heap.size (show 0 ≤ v6.toInt ∧ v6.toInt ≤ 1000 from by omega) (show 0 ≤ v24.toInt ∧ v24.toInt ≤ 1023 from by omega) hp_f17_0 hp_f17_1 hp_f17_2 hp_f17_3 hp_f17_4 hp_f17_5) (cwV 1 hts (gV tw_7_46 tw_7_48 tw_p_50 tw_1_13 tw_7_49) rfl rfl rfl hdV_X12_hasRead ⟨Nat.le_of_ble_eq_true rfl, Nat.le_of_ble_eq_true rfl⟩) (cz_V hK hPc hDc hN (ci := 12) (q0 := 0) rfl rfl [.int 2]) rfl rfl hl.1 rfl (lv_room (Nat.le_of_ble_eq_true rfl)) dX12_isRoom_6 ⟨Nat.le_of_ble_eq_true rfl, Nat.le_of_ble_eq_true rfl⟩) hS (fun q _ h => hFc q h) hFc (fun r_4 uZ tZ H1 locs ht hvm hw hB hz1 hk1 hS => ?_)
    obtain ⟨hP1, hK1, hD1⟩ := hB
    rw [ht] at hP1
    obtain ⟨hP, hD⟩ := va_join (wr := [(m5, .inl (k 1, 1000, .inl f5))]) (w1 := [(mo, .inr (12, [.int v0, .ref m1, .ref m2, .ref m3, .ref m4, .ref m5, .int v6, .int v7, .int v8, .int v9, .int v10, .long v11, .int v12, .int v13, .int v14, .int v15, .ref m16, .ref m17, .ref m18, .ref m19, .ref m20, .ref m21, .ref m22, .ref m23, .int v24, .ref m25, .ref m26, .ref m27, .ref m28, .ref m29, .int v30, .ref m31, .ref m32, .ref m33, .int v34, .int v35, .int v36, .ref m37, .ref m38, .ref m39, .ref m40, .long v41])), (m17, .inl (k 0, 30, .inl f17))]) hP hD [0, 2] [1] rfl rfl (by decide +kernel) (by decide +kernel) hk1 hFc hP1 hD1
    clear hK1 hP1 hD1 hPc hDc hFc
    clear hk1 hz1 ht hvm
    have hP : va_P D vwCl [(m5, .inl (k 1, 1000, .inl f5)), (mo, .inr (12, [.int v0, .ref m1, .ref m2, .ref m3, .ref m4, .ref m5, .int v6, .int v7, .int v8, .int v9, .int v10, .long v11, .int v12, .int v13, .int v14, .int v15, .ref m16, .ref m17, .ref m18, .ref m19, .ref m20, .ref m21, .ref m22, .ref m23, .int v24, .ref m25, .ref m26, .ref m27, .ref m28, .ref m29, .int v30, .ref m31, .ref m32, .ref m33, .int v34, .int v35, .int v36, .ref m37, .ref m38, .ref m39, .ref m40, .long v41])), (m17, .inl (k 0, 30, .inl f17))] H1 := hP
    have hD : va_D A [(m5, .inl (k 1, 1000, .inl f5)), (mo, .inr (12, [.int v0, .ref m1, .ref m2, .ref m3, .ref m4, .ref m5, .int v6, .int v7, .int v8, .int v9, .int v10, .long v11, .int v12, .int v13, .int v14, .int v15, .ref m16, .ref m17, .ref m18, .ref m19, .ref m20, .ref m21, .ref m22, .ref m23, .int v24, .ref m25, .ref m26, .ref m27, .ref m28, .ref m29, .int v30, .ref m31, .ref m32, .ref m33, .int v34, .int v35, .int v36, .ref m37, .ref m38, .ref m39, .ref m40, .long v41])), (m17, .inl (k 0, 30, .inl f17))] := hD
    generalize H1 = H at hP hS ⊢
    have hw_5 : (0 ≤ r_4.toInt ∧ r_4.toInt ≤ 4) ∧ (r_4 = f17 26) := hw
    obtain ⟨hw_6, hw_7⟩ := hw_5
    clear hw
    refine lv_iload_n hx hb dX12_isRoom_9 rfl (lv_at hl 3 rfl) ?_
    refine lv_icmp_ne (tgt := 18) hx hb dX12_isRoom_10 (by decide) (fun h_8 => ?_) (fun h_8 => ?_)
    · skip
      have zh_8 : ¬ r_4.toInt = 4 := z_ne h_8
      refine lv_iload_n hx hb dX12_isRoom_18 rfl (lv_at hl 1 rfl) ?_
      refine lv_if_eq (tgt := 33) hx hb dX12_isRoom_19 (by decide) (fun h_9 => ?_) (fun h_9 => ?_)
      · skip
        have zh_9 : p0.toInt = 0 := z_eq h_9
        exact False.elim (by omega)
      · skip
        have zh_9 : ¬ p0.toInt = 0 := z_ne h_9
        refine lv_aload_n hx hb dX12_isRoom_22 rfl (lv_at hl 0 rfl) ?_
        refine va_get (D := D) (ci := 12) (v := .int v12) (C := RX12) (T := TX12) (N := 42) hx hb hts iT_X12 hown hK hP 1 rfl rfl 12 (by decide) (hts _ tw_6_65) (fun _ h9 => h9) rfl dX12_isRoom_23 ?_
        refine lv_if_ne (tgt := 33) hx hb dX12_isRoom_26 (by decide) (fun h_10 => ?_) (fun h_10 => ?_)
        · skip
          have zh_10 : ¬ v12.toInt = 0 := z_ne h_10
          refine lv_iload_n hx hb dX12_isRoom_33 rfl (lv_at hl 1 rfl) ?_
          refine lv_if_eq (tgt := 48) hx hb dX12_isRoom_34 (by decide) (fun h_11 => ?_) (fun h_11 => ?_)
          · skip
            have zh_11 : p0.toInt = 0 := z_eq h_11
            exact False.elim (by omega)
          · skip
            have zh_11 : ¬ p0.toInt = 0 := z_ne h_11
            refine lv_aload_n hx hb dX12_isRoom_37 rfl (lv_at hl 0 rfl) ?_
            refine va_get (D := D) (ci := 12) (v := .int v12) (C := RX12) (T := TX12) (N := 42) hx hb hts iT_X12 hown hK hP 1 rfl rfl 12 (by decide) (hts _ tw_6_65) (fun _ h9 => h9) rfl dX12_isRoom_38 ?_
            refine lv_if_ne (tgt := 48) hx hb dX12_isRoom_41 (by decide) (fun h_12 => ?_) (fun h_12 => ?_)
            · skip
              have zh_12 : ¬ v12.toInt = 0 := z_ne h_12
              refine lv_iconst (v := 0) hx hb dX12_isRoom_48 (by decide) ?_
              obtain ⟨hP9, hD9⟩ := sub2 hP hD (ws' := [(mo, .inr (12, [.int v0, .ref m1, .ref m2, .ref m3, .ref m4, .ref m5, .int v6, .int v7, .int v8, .int v9, .int v10, .long v11, .int v12, .int v13, .int v14, .int v15, .ref m16, .ref m17, .ref m18, .ref m19, .ref m20, .ref m21, .ref m22, .ref m23, .int v24, .ref m25, .ref m26, .ref m27, .ref m28, .ref m29, .int v30, .ref m31, .ref m32, .ref m33, .int v34, .int v35, .int v36, .ref m37, .ref m38, .ref m39, .ref m40, .long v41])), (m5, .inl (k 1, 1000, .inl f5)), (m17, .inl (k 0, 30, .inl f17))]) [1, 0, 2] (by decide +kernel) rfl
              exact W.zret (v := 0) hx hb hr (by decide) (fun tZ ht hW => ⟨⟨0, (v7, v8, v9, v10, v11, v12, v13), rfl, ⟨(show 0 ≤ 0 ∧ 0 ≤ 1 from by omega), (show 0 ≤ v7.toInt ∧ v7.toInt ≤ 1000 from by omega), (show v7.toInt ≤ v7.toInt ∧ v7.toInt ≤ v6.toInt from by omega), (Or.inl (show (0 : Int) = 0 from rfl)), (show 0 = 0 ∨ v12.toInt = 0 from by omega)⟩, by rw [ht]; exact hP9, va_K.moved hW.alike hK, hD9⟩, hS.F ht⟩) hS.2.2 dX12_isRoom_49
            · skip
              have zh_12 : v12.toInt = 0 := z_eq h_12
              refine lv_iconst (v := 1) hx hb dX12_isRoom_44 (by decide) ?_
              refine lv_goto (tgt := 49) hx hb dX12_isRoom_45 (by decide) ?_
              obtain ⟨hP9, hD9⟩ := sub2 hP hD (ws' := [(mo, .inr (12, [.int v0, .ref m1, .ref m2, .ref m3, .ref m4, .ref m5, .int v6, .int v7, .int v8, .int v9, .int v10, .long v11, .int v12, .int v13, .int v14, .int v15, .ref m16, .ref m17, .ref m18, .ref m19, .ref m20, .ref m21, .ref m22, .ref m23, .int v24, .ref m25, .ref m26, .ref m27, .ref m28, .ref m29, .int v30, .ref m31, .ref m32, .ref m33, .int v34, .int v35, .int v36, .ref m37, .ref m38, .ref m39, .ref m40, .long v41])), (m5, .inl (k 1, 1000, .inl f5)), (m17, .inl (k 0, 30, .inl f17))]) [1, 0, 2] (by decide +kernel) rfl
              exact W.zret (v := 1) hx hb hr (by decide) (fun tZ ht hW => ⟨⟨1, (v7, v8, v9, v10, v11, v12, v13), rfl, ⟨(show 0 ≤ 1 ∧ 1 ≤ 1 from by omega), (show 0 ≤ v7.toInt ∧ v7.toInt ≤ 1000 from by omega), (show v7.toInt ≤ v7.toInt ∧ v7.toInt ≤ v6.toInt from by omega), (show 1 = 0 ∨ (f17 26).toInt ≤ 3 from by rw [← hw_7]; omega), (show 1 = 0 ∨ v12.toInt = 0 from by omega)⟩, by rw [ht]; exact hP9, va_K.moved hW.alike hK, hD9⟩, hS.F ht⟩) hS.2.2 dX12_isRoom_49
        · skip
          have zh_10 : v12.toInt = 0 := z_eq h_10
          refine lv_aload_n hx hb dX12_isRoom_29 rfl (lv_at hl 0 rfl) ?_
          obtain ⟨hPc, hDc, hFc⟩ := sub3 hP hD hS hA (ws' := [(mo, .inr (12, [.int v0, .ref m1, .ref m2, .ref m3, .ref m4, .ref m5, .int v6, .int v7, .int v8, .int v9, .int v10, .long v11, .int v12, .int v13, .int v14, .int v15, .ref m16, .ref m17, .ref m18, .ref m19, .ref m20, .ref m21, .ref m22, .ref m23, .int v24, .ref m25, .ref m26, .ref m27, .ref m28, .ref m29, .int v30, .ref m31, .ref m32, .ref m33, .int v34, .int v35, .int v36, .ref m37, .ref m38, .ref m39, .ref m40, .long v41])), (m5, .inl (k 1, 1000, .inl f5))]) [1, 0] (by decide +kernel) rfl
          refine va_callv (va_runV (C := RX12) (As := []) (rest := []) ⟨hx, hb, hml, hown, hts⟩ (c_X12_next l D k mo v0 m1 m2 m3 m4 m5 v6 v7 v8 v9 v10 v11 v12 v13 v14 v15 m16 m17 m18 m19 m20 m21 m22 m23 v24 m25 m26 m27 m28 m29 v30 m31 m32 m33 v34 v35 v36 m37 m38 m39 m40 v41 f5 H.size (show 0 ≤ v6.toInt ∧ v6.toInt ≤ 1000 from by omega) (show 0 ≤ v7.toInt ∧ v7.toInt ≤ 1000 from by omega) (show 0 ≤ v24.toInt ∧ v24.toInt ≤ 1023 from by omega) (show v7.toInt ≤ v6.toInt from by omega)) (cwV 0 hts (gV tw_6_234 tw_6_236 tw_p_39 tw_1_13 tw_6_237) rfl rfl rfl hdV_X12_next ⟨Nat.le_of_ble_eq_true rfl, Nat.le_of_ble_eq_true rfl⟩) (cz_V hK hPc hDc hN (ci := 12) (q0 := 0) rfl rfl []) rfl rfl hl.1 rfl (lv_room (Nat.le_of_ble_eq_true rfl)) dX12_isRoom_30 ⟨Nat.le_of_ble_eq_true rfl, Nat.le_of_ble_eq_true rfl⟩) hS (fun q _ h => hFc q h) hFc (fun uZ tZ H1 locs ht hvm hw hB hz1 hk1 hS => ?_)
          obtain ⟨o_14, o_15, o_16, o_17, o_18⟩ := uZ
          obtain ⟨hP1, hK1, hD1⟩ := hB
          rw [ht] at hP1
          obtain ⟨hP, hD⟩ := va_join (wr := [(m17, .inl (k 0, 30, .inl f17))]) (w1 := [(mo, .inr (12, [.int v0, .ref m1, .ref m2, .ref m3, .ref m4, .ref m5, .int v6, .int o_14, .int o_15, .int o_16, .int o_17, .long o_18, .int v12, .int v13, .int v14, .int v15, .ref m16, .ref m17, .ref m18, .ref m19, .ref m20, .ref m21, .ref m22, .ref m23, .int v24, .ref m25, .ref m26, .ref m27, .ref m28, .ref m29, .int v30, .ref m31, .ref m32, .ref m33, .int v34, .int v35, .int v36, .ref m37, .ref m38, .ref m39, .ref m40, .long v41])), (m5, .inl (k 1, 1000, .inl f5))]) hP hD [1, 0] [2] rfl rfl (by decide +kernel) (by decide +kernel) hk1 hFc hP1 hD1
          clear hK1 hP1 hD1 hPc hDc hFc
          clear hk1 hz1 ht hvm
          have hP : va_P D vwCl [(m17, .inl (k 0, 30, .inl f17)), (mo, .inr (12, [.int v0, .ref m1, .ref m2, .ref m3, .ref m4, .ref m5, .int v6, .int o_14, .int o_15, .int o_16, .int o_17, .long o_18, .int v12, .int v13, .int v14, .int v15, .ref m16, .ref m17, .ref m18, .ref m19, .ref m20, .ref m21, .ref m22, .ref m23, .int v24, .ref m25, .ref m26, .ref m27, .ref m28, .ref m29, .int v30, .ref m31, .ref m32, .ref m33, .int v34, .int v35, .int v36, .ref m37, .ref m38, .ref m39, .ref m40, .long v41])), (m5, .inl (k 1, 1000, .inl f5))] H1 := hP
          have hD : va_D A [(m17, .inl (k 0, 30, .inl f17)), (mo, .inr (12, [.int v0, .ref m1, .ref m2, .ref m3, .ref m4, .ref m5, .int v6, .int o_14, .int o_15, .int o_16, .int o_17, .long o_18, .int v12, .int v13, .int v14, .int v15, .ref m16, .ref m17, .ref m18, .ref m19, .ref m20, .ref m21, .ref m22, .ref m23, .int v24, .ref m25, .ref m26, .ref m27, .ref m28, .ref m29, .int v30, .ref m31, .ref m32, .ref m33, .int v34, .int v35, .int v36, .ref m37, .ref m38, .ref m39, .ref m40, .long v41])), (m5, .inl (k 1, 1000, .inl f5))] := hD
          generalize H1 = H at hP hS ⊢
          have hw_19 : (0 ≤ o_14.toInt ∧ o_14.toInt ≤ 1000) ∧ (0 ≤ o_15.toInt ∧ o_15.toInt ≤ 4) ∧ (0 ≤ o_16.toInt ∧ o_16.toInt ≤ 1000) ∧ (v7.toInt ≤ o_14.toInt ∧ o_14.toInt ≤ v6.toInt) ∧ (o_15.toInt = 0 ∨ v7.toInt < o_14.toInt) := hw
          obtain ⟨hw_20, hw_21, hw_22, hw_23, hw_24⟩ := hw_19
          clear hw
          refine lv_iload_n hx hb dX12_isRoom_33 rfl (lv_at hl 1 rfl) ?_
          refine lv_if_eq (tgt := 48) hx hb dX12_isRoom_34 (by decide) (fun h_25 => ?_) (fun h_25 => ?_)
          · skip
            have zh_25 : p0.toInt = 0 := z_eq h_25
            exact False.elim (by omega)
          · skip
            have zh_25 : ¬ p0.toInt = 0 := z_ne h_25
            refine lv_aload_n hx hb dX12_isRoom_37 rfl (lv_at hl 0 rfl) ?_
            refine va_get (D := D) (ci := 12) (v := .int v12) (C := RX12) (T := TX12) (N := 42) hx hb hts iT_X12 hown hK hP 1 rfl rfl 12 (by decide) (hts _ tw_6_65) (fun _ h9 => h9) rfl dX12_isRoom_38 ?_
            refine lv_if_ne (tgt := 48) hx hb dX12_isRoom_41 (by decide) (fun h_26 => ?_) (fun h_26 => ?_)
            · skip
              have zh_26 : ¬ v12.toInt = 0 := z_ne h_26
              exact False.elim (by omega)
            · skip
              have zh_26 : v12.toInt = 0 := z_eq h_26
              refine lv_iconst (v := 1) hx hb dX12_isRoom_44 (by decide) ?_
              refine lv_goto (tgt := 49) hx hb dX12_isRoom_45 (by decide) ?_
              obtain ⟨hP9, hD9⟩ := sub2 hP hD (ws' := [(mo, .inr (12, [.int v0, .ref m1, .ref m2, .ref m3, .ref m4, .ref m5, .int v6, .int o_14, .int o_15, .int o_16, .int o_17, .long o_18, .int v12, .int v13, .int v14, .int v15, .ref m16, .ref m17, .ref m18, .ref m19, .ref m20, .ref m21, .ref m22, .ref m23, .int v24, .ref m25, .ref m26, .ref m27, .ref m28, .ref m29, .int v30, .ref m31, .ref m32, .ref m33, .int v34, .int v35, .int v36, .ref m37, .ref m38, .ref m39, .ref m40, .long v41])), (m5, .inl (k 1, 1000, .inl f5)), (m17, .inl (k 0, 30, .inl f17))]) [1, 2, 0] (by decide +kernel) rfl
              exact W.zret (v := 1) hx hb hr (by decide) (fun tZ ht hW => ⟨⟨1, (o_14, o_15, o_16, o_17, o_18, v12, v13), rfl, ⟨(show 0 ≤ 1 ∧ 1 ≤ 1 from by omega), (show 0 ≤ o_14.toInt ∧ o_14.toInt ≤ 1000 from by omega), (show v7.toInt ≤ o_14.toInt ∧ o_14.toInt ≤ v6.toInt from by omega), (show 1 = 0 ∨ (f17 26).toInt ≤ 3 from by rw [← hw_7]; omega), (show 1 = 0 ∨ v12.toInt = 0 from by omega)⟩, by rw [ht]; exact hP9, va_K.moved hW.alike hK, hD9⟩, hS.F ht⟩) hS.2.2 dX12_isRoom_49
    · skip
      have zh_8 : r_4.toInt = 4 := z_eq h_8
      refine lv_aload_n hx hb dX12_isRoom_13 rfl (lv_at hl 0 rfl) ?_
      refine lv_iconst (v := 3) hx hb dX12_isRoom_14 (by decide) ?_
      obtain ⟨hPc, hDc, hFc⟩ := sub3 hP hD hS hA (ws' := [(mo, .inr (12, [.int v0, .ref m1, .ref m2, .ref m3, .ref m4, .ref m5, .int v6, .int v7, .int v8, .int v9, .int v10, .long v11, .int v12, .int v13, .int v14, .int v15, .ref m16, .ref m17, .ref m18, .ref m19, .ref m20, .ref m21, .ref m22, .ref m23, .int v24, .ref m25, .ref m26, .ref m27, .ref m28, .ref m29, .int v30, .ref m31, .ref m32, .ref m33, .int v34, .int v35, .int v36, .ref m37, .ref m38, .ref m39, .ref m40, .long v41]))]) [1] (by decide +kernel) rfl
      refine va_callv (va_runV (C := RX12) (As := [.int 3]) (rest := []) ⟨hx, hb, hml, hown, hts⟩ (c_X12_fails l D k mo 3 v0 m1 m2 m3 m4 m5 v6 v7 v8 v9 v10 v11 v12 v13 v14 v15 m16 m17 m18 m19 m20 m21 m22 m23 v24 m25 m26 m27 m28 m29 v30 m31 m32 m33 v34 v35 v36 m37 m38 m39 m40 v41 H.size (show 0 ≤ v6.toInt ∧ v6.toInt ≤ 1000 from by omega) (show 0 ≤ v24.toInt ∧ v24.toInt ≤ 1023 from by omega)) (cwV 1 hts (gV tw_7_24 tw_7_26 tw_p_45 tw_1_13 tw_7_27) rfl rfl rfl hdV_X12_fails ⟨Nat.le_of_ble_eq_true rfl, Nat.le_of_ble_eq_true rfl⟩) (cz_V hK hPc hDc hN (ci := 12) (q0 := 0) rfl rfl [.int 3]) rfl rfl hl.1 rfl (lv_room (Nat.le_of_ble_eq_true rfl)) dX12_isRoom_15 ⟨Nat.le_of_ble_eq_true rfl, Nat.le_of_ble_eq_true rfl⟩) hS (fun q _ h => hFc q h) hFc (fun uZ tZ H1 locs ht hvm hw hB hz1 hk1 hS => ?_)
      obtain ⟨o_28, o_29⟩ := uZ
      obtain ⟨hP1, hK1, hD1⟩ := hB
      rw [ht] at hP1
      obtain ⟨hP, hD⟩ := va_join (wr := [(m5, .inl (k 1, 1000, .inl f5)), (m17, .inl (k 0, 30, .inl f17))]) (w1 := [(mo, .inr (12, [.int v0, .ref m1, .ref m2, .ref m3, .ref m4, .ref m5, .int v6, .int v7, .int v8, .int v9, .int v10, .long v11, .int o_28, .int o_29, .int v14, .int v15, .ref m16, .ref m17, .ref m18, .ref m19, .ref m20, .ref m21, .ref m22, .ref m23, .int v24, .ref m25, .ref m26, .ref m27, .ref m28, .ref m29, .int v30, .ref m31, .ref m32, .ref m33, .int v34, .int v35, .int v36, .ref m37, .ref m38, .ref m39, .ref m40, .long v41]))]) hP hD [1] [0, 2] rfl rfl (by decide +kernel) (by decide +kernel) hk1 hFc hP1 hD1
      clear hK1 hP1 hD1 hPc hDc hFc
      clear hk1 hz1 ht hvm
      have hP : va_P D vwCl [(m5, .inl (k 1, 1000, .inl f5)), (m17, .inl (k 0, 30, .inl f17)), (mo, .inr (12, [.int v0, .ref m1, .ref m2, .ref m3, .ref m4, .ref m5, .int v6, .int v7, .int v8, .int v9, .int v10, .long v11, .int o_28, .int o_29, .int v14, .int v15, .ref m16, .ref m17, .ref m18, .ref m19, .ref m20, .ref m21, .ref m22, .ref m23, .int v24, .ref m25, .ref m26, .ref m27, .ref m28, .ref m29, .int v30, .ref m31, .ref m32, .ref m33, .int v34, .int v35, .int v36, .ref m37, .ref m38, .ref m39, .ref m40, .long v41]))] H1 := hP
      have hD : va_D A [(m5, .inl (k 1, 1000, .inl f5)), (m17, .inl (k 0, 30, .inl f17)), (mo, .inr (12, [.int v0, .ref m1, .ref m2, .ref m3, .ref m4, .ref m5, .int v6, .int v7, .int v8, .int v9, .int v10, .long v11, .int o_28, .int o_29, .int v14, .int v15, .ref m16, .ref m17, .ref m18, .ref m19, .ref m20, .ref m21, .ref m22, .ref m23, .int v24, .ref m25, .ref m26, .ref m27, .ref m28, .ref m29, .int v30, .ref m31, .ref m32, .ref m33, .int v34, .int v35, .int v36, .ref m37, .ref m38, .ref m39, .ref m40, .long v41]))] := hD
      generalize H1 = H at hP hS ⊢
      have hw_30 : ((v12.toInt = 0 ∧ o_28.toInt = 3) ∨ (¬ v12.toInt = 0 ∧ o_28.toInt = v12.toInt)) := hw
      have hw_31 := hw_30
      clear hw
      refine lv_iload_n hx hb dX12_isRoom_18 rfl (lv_at hl 1 rfl) ?_
      refine lv_if_eq (tgt := 33) hx hb dX12_isRoom_19 (by decide) (fun h_32 => ?_) (fun h_32 => ?_)
      · skip
        have zh_32 : p0.toInt = 0 := z_eq h_32
        exact False.elim (by omega)
      · skip
        have zh_32 : ¬ p0.toInt = 0 := z_ne h_32
        refine lv_aload_n hx hb dX12_isRoom_22 rfl (lv_at hl 0 rfl) ?_
        refine va_get (D := D) (ci := 12) (v := .int o_28) (C := RX12) (T := TX12) (N := 42) hx hb hts iT_X12 hown hK hP 2 rfl rfl 12 (by decide) (hts _ tw_6_65) (fun _ h9 => h9) rfl dX12_isRoom_23 ?_
        refine lv_if_ne (tgt := 33) hx hb dX12_isRoom_26 (by decide) (fun h_33 => ?_) (fun h_33 => ?_)
        · skip
          have zh_33 : ¬ o_28.toInt = 0 := z_ne h_33
          refine lv_iload_n hx hb dX12_isRoom_33 rfl (lv_at hl 1 rfl) ?_
          refine lv_if_eq (tgt := 48) hx hb dX12_isRoom_34 (by decide) (fun h_34 => ?_) (fun h_34 => ?_)
          · skip
            have zh_34 : p0.toInt = 0 := z_eq h_34
            exact False.elim (by omega)
          · skip
            have zh_34 : ¬ p0.toInt = 0 := z_ne h_34
            refine lv_aload_n hx hb dX12_isRoom_37 rfl (lv_at hl 0 rfl) ?_
            refine va_get (D := D) (ci := 12) (v := .int o_28) (C := RX12) (T := TX12) (N := 42) hx hb hts iT_X12 hown hK hP 2 rfl rfl 12 (by decide) (hts _ tw_6_65) (fun _ h9 => h9) rfl dX12_isRoom_38 ?_
            refine lv_if_ne (tgt := 48) hx hb dX12_isRoom_41 (by decide) (fun h_35 => ?_) (fun h_35 => ?_)
            · skip
              have zh_35 : ¬ o_28.toInt = 0 := z_ne h_35
              refine lv_iconst (v := 0) hx hb dX12_isRoom_48 (by decide) ?_
              obtain ⟨hP9, hD9⟩ := sub2 hP hD (ws' := [(mo, .inr (12, [.int v0, .ref m1, .ref m2, .ref m3, .ref m4, .ref m5, .int v6, .int v7, .int v8, .int v9, .int v10, .long v11, .int o_28, .int o_29, .int v14, .int v15, .ref m16, .ref m17, .ref m18, .ref m19, .ref m20, .ref m21, .ref m22, .ref m23, .int v24, .ref m25, .ref m26, .ref m27, .ref m28, .ref m29, .int v30, .ref m31, .ref m32, .ref m33, .int v34, .int v35, .int v36, .ref m37, .ref m38, .ref m39, .ref m40, .long v41])), (m5, .inl (k 1, 1000, .inl f5)), (m17, .inl (k 0, 30, .inl f17))]) [2, 0, 1] (by decide +kernel) rfl
              exact W.zret (v := 0) hx hb hr (by decide) (fun tZ ht hW => ⟨⟨0, (v7, v8, v9, v10, v11, o_28, o_29), rfl, ⟨(show 0 ≤ 0 ∧ 0 ≤ 1 from by omega), (show 0 ≤ v7.toInt ∧ v7.toInt ≤ 1000 from by omega), (show v7.toInt ≤ v7.toInt ∧ v7.toInt ≤ v6.toInt from by omega), (Or.inl (show (0 : Int) = 0 from rfl)), (show 0 = 0 ∨ o_28.toInt = 0 from by omega)⟩, by rw [ht]; exact hP9, va_K.moved hW.alike hK, hD9⟩, hS.F ht⟩) hS.2.2 dX12_isRoom_49
            · skip
              have zh_35 : o_28.toInt = 0 := z_eq h_35
              refine lv_iconst (v := 1) hx hb dX12_isRoom_44 (by decide) ?_
              refine lv_goto (tgt := 49) hx hb dX12_isRoom_45 (by decide) ?_
              obtain ⟨hP9, hD9⟩ := sub2 hP hD (ws' := [(mo, .inr (12, [.int v0, .ref m1, .ref m2, .ref m3, .ref m4, .ref m5, .int v6, .int v7, .int v8, .int v9, .int v10, .long v11, .int o_28, .int o_29, .int v14, .int v15, .ref m16, .ref m17, .ref m18, .ref m19, .ref m20, .ref m21, .ref m22, .ref m23, .int v24, .ref m25, .ref m26, .ref m27, .ref m28, .ref m29, .int v30, .ref m31, .ref m32, .ref m33, .int v34, .int v35, .int v36, .ref m37, .ref m38, .ref m39, .ref m40, .long v41])), (m5, .inl (k 1, 1000, .inl f5)), (m17, .inl (k 0, 30, .inl f17))]) [2, 0, 1] (by decide +kernel) rfl
              exact W.zret (v := 1) hx hb hr (by decide) (fun tZ ht hW => ⟨⟨1, (v7, v8, v9, v10, v11, o_28, o_29), rfl, ⟨(show 0 ≤ 1 ∧ 1 ≤ 1 from by omega), (show 0 ≤ v7.toInt ∧ v7.toInt ≤ 1000 from by omega), (show v7.toInt ≤ v7.toInt ∧ v7.toInt ≤ v6.toInt from by omega), (show 1 = 0 ∨ (f17 26).toInt ≤ 3 from by rw [← hw_7]; omega), (show 1 = 0 ∨ o_28.toInt = 0 from by omega)⟩, by rw [ht]; exact hP9, va_K.moved hW.alike hK, hD9⟩, hS.F ht⟩) hS.2.2 dX12_isRoom_49
        · skip
          have zh_33 : o_28.toInt = 0 := z_eq h_33
          refine lv_aload_n hx hb dX12_isRoom_29 rfl (lv_at hl 0 rfl) ?_
          obtain ⟨hPc, hDc, hFc⟩ := sub3 hP hD hS hA (ws' := [(mo, .inr (12, [.int v0, .ref m1, .ref m2, .ref m3, .ref m4, .ref m5, .int v6, .int v7, .int v8, .int v9, .int v10, .long v11, .int o_28, .int o_29, .int v14, .int v15, .ref m16, .ref m17, .ref m18, .ref m19, .ref m20, .ref m21, .ref m22, .ref m23, .int v24, .ref m25, .ref m26, .ref m27, .ref m28, .ref m29, .int v30, .ref m31, .ref m32, .ref m33, .int v34, .int v35, .int v36, .ref m37, .ref m38, .ref m39, .ref m40, .long v41])), (m5, .inl (k 1, 1000, .inl f5))]) [2, 0] (by decide +kernel) rfl
          refine va_callv (va_runV (C := RX12) (As := []) (rest := []) ⟨hx, hb, hml, hown, hts⟩ (c_X12_next l D k mo v0 m1 m2 m3 m4 m5 v6 v7 v8 v9 v10 v11 o_28 o_29 v14 v15 m16 m17 m18 m19 m20 m21 m22 m23 v24 m25 m26 m27 m28 m29 v30 m31 m32 m33 v34 v35 v36 m37 m38 m39 m40 v41 f5 H.size (show 0 ≤ v6.toInt ∧ v6.toInt ≤ 1000 from by omega) (show 0 ≤ v7.toInt ∧ v7.toInt ≤ 1000 from by omega) (show 0 ≤ v24.toInt ∧ v24.toInt ≤ 1023 from by omega) (show v7.toInt ≤ v6.toInt from by omega)) (cwV 0 hts (gV tw_6_234 tw_6_236 tw_p_39 tw_1_13 tw_6_237) rfl rfl rfl hdV_X12_next ⟨Nat.le_of_ble_eq_true rfl, Nat.le_of_ble_eq_true rfl⟩) (cz_V hK hPc hDc hN (ci := 12) (q0 := 0) rfl rfl []) rfl rfl hl.1 rfl (lv_room (Nat.le_of_ble_eq_true rfl)) dX12_isRoom_30 ⟨Nat.le_of_ble_eq_true rfl, Nat.le_of_ble_eq_true rfl⟩) hS (fun q _ h => hFc q h) hFc (fun uZ tZ H1 locs ht hvm hw hB hz1 hk1 hS => ?_)
          obtain ⟨o_37, o_38, o_39, o_40, o_41⟩ := uZ
          obtain ⟨hP1, hK1, hD1⟩ := hB
          rw [ht] at hP1
          obtain ⟨hP, hD⟩ := va_join (wr := [(m17, .inl (k 0, 30, .inl f17))]) (w1 := [(mo, .inr (12, [.int v0, .ref m1, .ref m2, .ref m3, .ref m4, .ref m5, .int v6, .int o_37, .int o_38, .int o_39, .int o_40, .long o_41, .int o_28, .int o_29, .int v14, .int v15, .ref m16, .ref m17, .ref m18, .ref m19, .ref m20, .ref m21, .ref m22, .ref m23, .int v24, .ref m25, .ref m26, .ref m27, .ref m28, .ref m29, .int v30, .ref m31, .ref m32, .ref m33, .int v34, .int v35, .int v36, .ref m37, .ref m38, .ref m39, .ref m40, .long v41])), (m5, .inl (k 1, 1000, .inl f5))]) hP hD [2, 0] [1] rfl rfl (by decide +kernel) (by decide +kernel) hk1 hFc hP1 hD1
          clear hK1 hP1 hD1 hPc hDc hFc
          clear hk1 hz1 ht hvm
          have hP : va_P D vwCl [(m17, .inl (k 0, 30, .inl f17)), (mo, .inr (12, [.int v0, .ref m1, .ref m2, .ref m3, .ref m4, .ref m5, .int v6, .int o_37, .int o_38, .int o_39, .int o_40, .long o_41, .int o_28, .int o_29, .int v14, .int v15, .ref m16, .ref m17, .ref m18, .ref m19, .ref m20, .ref m21, .ref m22, .ref m23, .int v24, .ref m25, .ref m26, .ref m27, .ref m28, .ref m29, .int v30, .ref m31, .ref m32, .ref m33, .int v34, .int v35, .int v36, .ref m37, .ref m38, .ref m39, .ref m40, .long v41])), (m5, .inl (k 1, 1000, .inl f5))] H1 := hP
          have hD : va_D A [(m17, .inl (k 0, 30, .inl f17)), (mo, .inr (12, [.int v0, .ref m1, .ref m2, .ref m3, .ref m4, .ref m5, .int v6, .int o_37, .int o_38, .int o_39, .int o_40, .long o_41, .int o_28, .int o_29, .int v14, .int v15, .ref m16, .ref m17, .ref m18, .ref m19, .ref m20, .ref m21, .ref m22, .ref m23, .int v24, .ref m25, .ref m26, .ref m27, .ref m28, .ref m29, .int v30, .ref m31, .ref m32, .ref m33, .int v34, .int v35, .int v36, .ref m37, .ref m38, .ref m39, .ref m40, .long v41])), (m5, .inl (k 1, 1000, .inl f5))] := hD
          generalize H1 = H at hP hS ⊢
          have hw_42 : (0 ≤ o_37.toInt ∧ o_37.toInt ≤ 1000) ∧ (0 ≤ o_38.toInt ∧ o_38.toInt ≤ 4) ∧ (0 ≤ o_39.toInt ∧ o_39.toInt ≤ 1000) ∧ (v7.toInt ≤ o_37.toInt ∧ o_37.toInt ≤ v6.toInt) ∧ (o_38.toInt = 0 ∨ v7.toInt < o_37.toInt) := hw
          obtain ⟨hw_43, hw_44, hw_45, hw_46, hw_47⟩ := hw_42
          clear hw
          refine lv_iload_n hx hb dX12_isRoom_33 rfl (lv_at hl 1 rfl) ?_
          refine lv_if_eq (tgt := 48) hx hb dX12_isRoom_34 (by decide) (fun h_48 => ?_) (fun h_48 => ?_)
          · skip
            have zh_48 : p0.toInt = 0 := z_eq h_48
            exact False.elim (by omega)
          · skip
            have zh_48 : ¬ p0.toInt = 0 := z_ne h_48
            refine lv_aload_n hx hb dX12_isRoom_37 rfl (lv_at hl 0 rfl) ?_
            refine va_get (D := D) (ci := 12) (v := .int o_28) (C := RX12) (T := TX12) (N := 42) hx hb hts iT_X12 hown hK hP 1 rfl rfl 12 (by decide) (hts _ tw_6_65) (fun _ h9 => h9) rfl dX12_isRoom_38 ?_
            refine lv_if_ne (tgt := 48) hx hb dX12_isRoom_41 (by decide) (fun h_49 => ?_) (fun h_49 => ?_)
            · skip
              have zh_49 : ¬ o_28.toInt = 0 := z_ne h_49
              exact False.elim (by omega)
            · skip
              have zh_49 : o_28.toInt = 0 := z_eq h_49
              refine lv_iconst (v := 1) hx hb dX12_isRoom_44 (by decide) ?_
              refine lv_goto (tgt := 49) hx hb dX12_isRoom_45 (by decide) ?_
              obtain ⟨hP9, hD9⟩ := sub2 hP hD (ws' := [(mo, .inr (12, [.int v0, .ref m1, .ref m2, .ref m3, .ref m4, .ref m5, .int v6, .int o_37, .int o_38, .int o_39, .int o_40, .long o_41, .int o_28, .int o_29, .int v14, .int v15, .ref m16, .ref m17, .ref m18, .ref m19, .ref m20, .ref m21, .ref m22, .ref m23, .int v24, .ref m25, .ref m26, .ref m27, .ref m28, .ref m29, .int v30, .ref m31, .ref m32, .ref m33, .int v34, .int v35, .int v36, .ref m37, .ref m38, .ref m39, .ref m40, .long v41])), (m5, .inl (k 1, 1000, .inl f5)), (m17, .inl (k 0, 30, .inl f17))]) [1, 2, 0] (by decide +kernel) rfl
              exact W.zret (v := 1) hx hb hr (by decide) (fun tZ ht hW => ⟨⟨1, (o_37, o_38, o_39, o_40, o_41, o_28, o_29), rfl, ⟨(show 0 ≤ 1 ∧ 1 ≤ 1 from by omega), (show 0 ≤ o_37.toInt ∧ o_37.toInt ≤ 1000 from by omega), (show v7.toInt ≤ o_37.toInt ∧ o_37.toInt ≤ v6.toInt from by omega), (show 1 = 0 ∨ (f17 26).toInt ≤ 3 from by rw [← hw_7]; omega), (show 1 = 0 ∨ o_28.toInt = 0 from by omega)⟩, by rw [ht]; exact hP9, va_K.moved hW.alike hK, hD9⟩, hS.F ht⟩) hS.2.2 dX12_isRoom_49
set_option maxHeartbeats 4000000 in
set_option maxRecDepth 100000 in
theorem c_X12_isRoom_2 (l : Launch) (D : va_G) (k : Nat → ClassId) (mo : Nat) (p0 : Int32) (v0 : Int32) (m1 : Nat) (m2 : Nat) (m3 : Nat) (m4 : Nat) (m5 : Nat) (v6 : Int32) (v7 : Int32) (v8 : Int32) (v9 : Int32) (v10 : Int32) (v11 : Int64) (v12 : Int32) (v13 : Int32) (v14 : Int32) (v15 : Int32) (m16 : Nat) (m17 : Nat) (m18 : Nat) (m19 : Nat) (m20 : Nat) (m21 : Nat) (m22 : Nat) (m23 : Nat) (v24 : Int32) (m25 : Nat) (m26 : Nat) (m27 : Nat) (m28 : Nat) (m29 : Nat) (v30 : Int32) (m31 : Nat) (m32 : Nat) (m33 : Nat) (v34 : Int32) (v35 : Int32) (v36 : Int32) (m37 : Nat) (m38 : Nat) (m39 : Nat) (m40 : Nat) (v41 : Int64) (f5 : Nat → Int32) (f17 : Nat → Int32) (sz : Nat) (h_p0 : 0 ≤ p0.toInt ∧ p0.toInt ≤ 1) (h_v6 : 0 ≤ v6.toInt ∧ v6.toInt ≤ 1000) (h_v7 : 0 ≤ v7.toInt ∧ v7.toInt ≤ 1000) (h_v24 : 0 ≤ v24.toInt ∧ v24.toInt ≤ 1023) (hp_f17_0 : PR 30 6 0 0 8 f17) (hp_f17_1 : PR 30 6 1 0 10 f17) (hp_f17_2 : PR 30 6 2 0 4 f17) (hp_f17_3 : PR 30 6 3 0 6 f17) (hp_f17_4 : PR 30 6 4 0 2 f17) (hp_f17_5 : PR 30 6 5 0 40 f17) (hat : v7.toInt ≤ v6.toInt) : Met l yX12_isRoom (ww yX12_isRoom cX12_isRoom 4 (some .boolean)) ({ frames := 2, cells := 0, slots := 0, locals := 44 }) (Pre0 D k [(mo, .inr (12, [.int v0, .ref m1, .ref m2, .ref m3, .ref m4, .ref m5, .int v6, .int v7, .int v8, .int v9, .int v10, .long v11, .int v12, .int v13, .int v14, .int v15, .ref m16, .ref m17, .ref m18, .ref m19, .ref m20, .ref m21, .ref m22, .ref m23, .int v24, .ref m25, .ref m26, .ref m27, .ref m28, .ref m29, .int v30, .ref m31, .ref m32, .ref m33, .int v34, .int v35, .int v36, .ref m37, .ref m38, .ref m39, .ref m40, .long v41])), (m5, .inl (k 1, 1000, .inl f5)), (m17, .inl (k 0, 30, .inl f17))] sz [.ref mo, .int p0, .int 3, .int 6]) (va_Qi (fun (r : Int32) (u : Int32 × Int32 × Int32 × Int32 × Int64 × Int32 × Int32) => match u with | (v7z, v8z, v9z, v10z, v11z, v12z, v13z) => (0 ≤ r.toInt ∧ r.toInt ≤ 1) ∧ (0 ≤ v7z.toInt ∧ v7z.toInt ≤ 1000) ∧ (v7.toInt ≤ v7z.toInt ∧ v7z.toInt ≤ v6.toInt) ∧ (r.toInt = 0 ∨ (f17 27).toInt ≤ 5) ∧ (r.toInt = 0 ∨ v12z.toInt = 0)) (fun (u : Int32 × Int32 × Int32 × Int32 × Int64 × Int32 × Int32) tZ => match u with | (v7z, v8z, v9z, v10z, v11z, v12z, v13z) => Bw D k (va_A [(mo, .inr (12, [.int v0, .ref m1, .ref m2, .ref m3, .ref m4, .ref m5, .int v6, .int v7, .int v8, .int v9, .int v10, .long v11, .int v12, .int v13, .int v14, .int v15, .ref m16, .ref m17, .ref m18, .ref m19, .ref m20, .ref m21, .ref m22, .ref m23, .int v24, .ref m25, .ref m26, .ref m27, .ref m28, .ref m29, .int v30, .ref m31, .ref m32, .ref m33, .int v34, .int v35, .int v36, .ref m37, .ref m38, .ref m39, .ref m40, .long v41])), (m5, .inl (k 1, 1000, .inl f5)), (m17, .inl (k 0, 30, .inl f17))] sz) [(mo, .inr (12, [.int v0, .ref m1, .ref m2, .ref m3, .ref m4, .ref m5, .int v6, .int v7z, .int v8z, .int v9z, .int v10z, .long v11z, .int v12z, .int v13z, .int v14, .int v15, .ref m16, .ref m17, .ref m18, .ref m19, .ref m20, .ref m21, .ref m22, .ref m23, .int v24, .ref m25, .ref m26, .ref m27, .ref m28, .ref m29, .int v30, .ref m31, .ref m32, .ref m33, .int v34, .int v35, .int v36, .ref m37, .ref m38, .ref m39, .ref m40, .long v41])), (m5, .inl (k 1, 1000, .inl f5)), (m17, .inl (k 0, 30, .inl f17))] tZ) (va_A [(mo, .inr (12, [.int v0, .ref m1, .ref m2, .ref m3, .ref m4, .ref m5, .int v6, .int v7, .int v8, .int v9, .int v10, .long v11, .int v12, .int v13, .int v14, .int v15, .ref m16, .ref m17, .ref m18, .ref m19, .ref m20, .ref m21, .ref m22, .ref m23, .int v24, .ref m25, .ref m26, .ref m27, .ref m28, .ref m29, .int v30, .ref m31, .ref m32, .ref m33, .int v34, .int v35, .int v36, .ref m37, .ref m38, .ref m39, .ref m40, .long v41])), (m5, .inl (k 1, 1000, .inl f5)), (m17, .inl (k 0, 30, .inl f17))] sz)) 0 0 (va_A [(mo, .inr (12, [.int v0, .ref m1, .ref m2, .ref m3, .ref m4, .ref m5, .int v6, .int v7, .int v8, .int v9, .int v10, .long v11, .int v12, .int v13, .int v14, .int v15, .ref m16, .ref m17, .ref m18, .ref m19, .ref m20, .ref m21, .ref m22, .ref m23, .int v24, .ref m25, .ref m26, .ref m27, .ref m28, .ref m29, .int v30, .ref m31, .ref m32, .ref m33, .int v34, .int v35, .int v36, .ref m37, .ref m38, .ref m39, .ref m40, .long v41])), (m5, .inl (k 1, 1000, .inl f5)), (m17, .inl (k 0, 30, .inl f17))] sz) := by
  refine Met.ofW (cc := cX12_isRoom) (maxL := 4) (ret := (some .boolean)) (by decide +kernel) rfl ?_
  intro p e s m args below meth c s₁ B hml hv
  obtain ⟨rfl, hsz, hP, hK, hD0, hN⟩ := hv
  have hx := B.exec
  have hb := B.bytes
  have hr := B.returns
  have hts : ∀ w ∈ TT, w.before _ s = true := fun w h => atoms_spec (ws := ww yX12_isRoom cX12_isRoom 4 (some .boolean)) B.pre w (List.mem_cons_of_mem _ h)
  have hown : s.vm.findClass RX12 = some m.cls := findClass_of_methodNamed B.named
  have hlocks := B.notSynchronized
  subst hsz
  have hD := hD0.self (sz := s.heap.size)
  generalize hAe : va_A [(mo, .inr (12, [.int v0, .ref m1, .ref m2, .ref m3, .ref m4, .ref m5, .int v6, .int v7, .int v8, .int v9, .int v10, .long v11, .int v12, .int v13, .int v14, .int v15, .ref m16, .ref m17, .ref m18, .ref m19, .ref m20, .ref m21, .ref m22, .ref m23, .int v24, .ref m25, .ref m26, .ref m27, .ref m28, .ref m29, .int v30, .ref m31, .ref m32, .ref m33, .int v34, .int v35, .int v36, .ref m37, .ref m38, .ref m39, .ref m40, .long v41])), (m5, .inl (k 1, 1000, .inl f5)), (m17, .inl (k 0, 30, .inl f17))] s.heap.size = A at hD ⊢
  have hA : ∀ q : Nat, s.heap.size ≤ q → A q := fun q h => by rw [← hAe]; exact Or.inr h
  have hS : va_S A s.heap s.heap [] := va_S.rf
  have hl := lv_entry ([.ref mo, .int p0, .int 3, .int 6]) (n := 4) (Nat.le_of_ble_eq_true rfl)
  rw [lg_entry_eq]
  generalize (lg_sl ([.ref mo, .int p0, .int 3, .int 6]) ++ List.replicate (4 - (lg_sl ([.ref mo, .int p0, .int 3, .int 6])).length) Slot.unset).toArray = ls at hl ⊢
  have hl : lv_has ls 4 [(0, .ref mo), (1, .int p0), (2, .int 3), (3, .int 6)] := hl
  refine lv_iload_n hx hb dX12_isRoom_0 rfl (lv_at hl 1 rfl) ?_
  refine lv_if_eq (tgt := 18) hx hb dX12_isRoom_1 (by decide) (fun h_1 => ?_) (fun h_1 => ?_)
  · skip
    have zh_1 : p0.toInt = 0 := z_eq h_1
    refine lv_iload_n hx hb dX12_isRoom_18 rfl (lv_at hl 1 rfl) ?_
    refine lv_if_eq (tgt := 33) hx hb dX12_isRoom_19 (by decide) (fun h_2 => ?_) (fun h_2 => ?_)
    · skip
      have zh_2 : p0.toInt = 0 := z_eq h_2
      refine lv_iload_n hx hb dX12_isRoom_33 rfl (lv_at hl 1 rfl) ?_
      refine lv_if_eq (tgt := 48) hx hb dX12_isRoom_34 (by decide) (fun h_3 => ?_) (fun h_3 => ?_)
      · skip
        have zh_3 : p0.toInt = 0 := z_eq h_3
        refine lv_iconst (v := 0) hx hb dX12_isRoom_48 (by decide) ?_
        obtain ⟨hP9, hD9⟩ := sub2 hP hD (ws' := [(mo, .inr (12, [.int v0, .ref m1, .ref m2, .ref m3, .ref m4, .ref m5, .int v6, .int v7, .int v8, .int v9, .int v10, .long v11, .int v12, .int v13, .int v14, .int v15, .ref m16, .ref m17, .ref m18, .ref m19, .ref m20, .ref m21, .ref m22, .ref m23, .int v24, .ref m25, .ref m26, .ref m27, .ref m28, .ref m29, .int v30, .ref m31, .ref m32, .ref m33, .int v34, .int v35, .int v36, .ref m37, .ref m38, .ref m39, .ref m40, .long v41])), (m5, .inl (k 1, 1000, .inl f5)), (m17, .inl (k 0, 30, .inl f17))]) [0, 1, 2] (by decide +kernel) rfl
        exact W.zret (v := 0) hx hb hr (by decide) (fun tZ ht hW => ⟨⟨0, (v7, v8, v9, v10, v11, v12, v13), rfl, ⟨(show 0 ≤ 0 ∧ 0 ≤ 1 from by omega), (show 0 ≤ v7.toInt ∧ v7.toInt ≤ 1000 from by omega), (show v7.toInt ≤ v7.toInt ∧ v7.toInt ≤ v6.toInt from by omega), (Or.inl (show (0 : Int) = 0 from rfl)), (show 0 = 0 ∨ v12.toInt = 0 from by omega)⟩, by rw [ht]; exact hP9, va_K.moved hW.alike hK, hD9⟩, hS.F ht⟩) hS.2.2 dX12_isRoom_49
      · skip
        have zh_3 : ¬ p0.toInt = 0 := z_ne h_3
        exact False.elim (by omega)
    · skip
      have zh_2 : ¬ p0.toInt = 0 := z_ne h_2
      exact False.elim (by omega)
  · skip
    have zh_1 : ¬ p0.toInt = 0 := z_ne h_1
    refine lv_aload_n hx hb dX12_isRoom_4 rfl (lv_at hl 0 rfl) ?_
    refine lv_iload_n hx hb dX12_isRoom_5 rfl (lv_at hl 2 rfl) ?_
    obtain ⟨hPc, hDc, hFc⟩ := sub3 hP hD hS hA (ws' := [(mo, .inr (12, [.int v0, .ref m1, .ref m2, .ref m3, .ref m4, .ref m5, .int v6, .int v7, .int v8, .int v9, .int v10, .long v11, .int v12, .int v13, .int v14, .int v15, .ref m16, .ref m17, .ref m18, .ref m19, .ref m20, .ref m21, .ref m22, .ref m23, .int v24, .ref m25, .ref m26, .ref m27, .ref m28, .ref m29, .int v30, .ref m31, .ref m32, .ref m33, .int v34, .int v35, .int v36, .ref m37, .ref m38, .ref m39, .ref m40, .long v41])), (m17, .inl (k 0, 30, .inl f17))]) [0, 2] (by decide +kernel) rfl
    refine va_calli (va_runV (C := RX12) (As := [.int 3]) (rest := []) ⟨hx, hb, hml, hown, hts⟩ (c_X12_hasRead_3 l D k mo v0 m1 m2 m3 m4 m5 v6 v7 v8 v9 v10 v11 v12 v13 v14 v15 m16 m17 m18 m19 m20 m21 m22 m23 v24 m25 m26 m27 m28 m29 v30 m31 m32 m33 v34 v35 v36 m37 m38 m39 m40 v41 f17 s.heap.size (show 0 ≤ v6.toInt ∧ v6.toInt ≤ 1000 from by omega) (show 0 ≤ v24.toInt ∧ v24.toInt ≤ 1023 from by omega) hp_f17_0 hp_f17_1 hp_f17_2 hp_f17_3 hp_f17_4 hp_f17_5) (cwV 1 hts (gV tw_7_46 tw_7_48 tw_p_50 tw_1_13 tw_7_49) rfl rfl rfl hdV_X12_hasRead ⟨Nat.le_of_ble_eq_true rfl, Nat.le_of_ble_eq_true rfl⟩) (cz_V hK hPc hDc hN (ci := 12) (q0 := 0) rfl rfl [.int 3]) rfl rfl hl.1 rfl (lv_room (Nat.le_of_ble_eq_true rfl)) dX12_isRoom_6 ⟨Nat.le_of_ble_eq_true rfl, Nat.le_of_ble_eq_true rfl⟩) hS (fun q _ h => hFc q h) hFc (fun r_4 uZ tZ H1 locs ht hvm hw hB hz1 hk1 hS => ?_)
    obtain ⟨hP1, hK1, hD1⟩ := hB
    rw [ht] at hP1
    obtain ⟨hP, hD⟩ := va_join (wr := [(m5, .inl (k 1, 1000, .inl f5))]) (w1 := [(mo, .inr (12, [.int v0, .ref m1, .ref m2, .ref m3, .ref m4, .ref m5, .int v6, .int v7, .int v8, .int v9, .int v10, .long v11, .int v12, .int v13, .int v14, .int v15, .ref m16, .ref m17, .ref m18, .ref m19, .ref m20, .ref m21, .ref m22, .ref m23, .int v24, .ref m25, .ref m26, .ref m27, .ref m28, .ref m29, .int v30, .ref m31, .ref m32, .ref m33, .int v34, .int v35, .int v36, .ref m37, .ref m38, .ref m39, .ref m40, .long v41])), (m17, .inl (k 0, 30, .inl f17))]) hP hD [0, 2] [1] rfl rfl (by decide +kernel) (by decide +kernel) hk1 hFc hP1 hD1
    clear hK1 hP1 hD1 hPc hDc hFc
    clear hk1 hz1 ht hvm
    have hP : va_P D vwCl [(m5, .inl (k 1, 1000, .inl f5)), (mo, .inr (12, [.int v0, .ref m1, .ref m2, .ref m3, .ref m4, .ref m5, .int v6, .int v7, .int v8, .int v9, .int v10, .long v11, .int v12, .int v13, .int v14, .int v15, .ref m16, .ref m17, .ref m18, .ref m19, .ref m20, .ref m21, .ref m22, .ref m23, .int v24, .ref m25, .ref m26, .ref m27, .ref m28, .ref m29, .int v30, .ref m31, .ref m32, .ref m33, .int v34, .int v35, .int v36, .ref m37, .ref m38, .ref m39, .ref m40, .long v41])), (m17, .inl (k 0, 30, .inl f17))] H1 := hP
    have hD : va_D A [(m5, .inl (k 1, 1000, .inl f5)), (mo, .inr (12, [.int v0, .ref m1, .ref m2, .ref m3, .ref m4, .ref m5, .int v6, .int v7, .int v8, .int v9, .int v10, .long v11, .int v12, .int v13, .int v14, .int v15, .ref m16, .ref m17, .ref m18, .ref m19, .ref m20, .ref m21, .ref m22, .ref m23, .int v24, .ref m25, .ref m26, .ref m27, .ref m28, .ref m29, .int v30, .ref m31, .ref m32, .ref m33, .int v34, .int v35, .int v36, .ref m37, .ref m38, .ref m39, .ref m40, .long v41])), (m17, .inl (k 0, 30, .inl f17))] := hD
    generalize H1 = H at hP hS ⊢
    have hw_5 : (0 ≤ r_4.toInt ∧ r_4.toInt ≤ 6) ∧ (r_4 = f17 27) := hw
    obtain ⟨hw_6, hw_7⟩ := hw_5
    clear hw
    refine lv_iload_n hx hb dX12_isRoom_9 rfl (lv_at hl 3 rfl) ?_
    refine lv_icmp_ne (tgt := 18) hx hb dX12_isRoom_10 (by decide) (fun h_8 => ?_) (fun h_8 => ?_)
    · skip
      have zh_8 : ¬ r_4.toInt = 6 := z_ne h_8
      refine lv_iload_n hx hb dX12_isRoom_18 rfl (lv_at hl 1 rfl) ?_
      refine lv_if_eq (tgt := 33) hx hb dX12_isRoom_19 (by decide) (fun h_9 => ?_) (fun h_9 => ?_)
      · skip
        have zh_9 : p0.toInt = 0 := z_eq h_9
        exact False.elim (by omega)
      · skip
        have zh_9 : ¬ p0.toInt = 0 := z_ne h_9
        refine lv_aload_n hx hb dX12_isRoom_22 rfl (lv_at hl 0 rfl) ?_
        refine va_get (D := D) (ci := 12) (v := .int v12) (C := RX12) (T := TX12) (N := 42) hx hb hts iT_X12 hown hK hP 1 rfl rfl 12 (by decide) (hts _ tw_6_65) (fun _ h9 => h9) rfl dX12_isRoom_23 ?_
        refine lv_if_ne (tgt := 33) hx hb dX12_isRoom_26 (by decide) (fun h_10 => ?_) (fun h_10 => ?_)
        · skip
          have zh_10 : ¬ v12.toInt = 0 := z_ne h_10
          refine lv_iload_n hx hb dX12_isRoom_33 rfl (lv_at hl 1 rfl) ?_
          refine lv_if_eq (tgt := 48) hx hb dX12_isRoom_34 (by decide) (fun h_11 => ?_) (fun h_11 => ?_)
          · skip
            have zh_11 : p0.toInt = 0 := z_eq h_11
            exact False.elim (by omega)
          · skip
            have zh_11 : ¬ p0.toInt = 0 := z_ne h_11
            refine lv_aload_n hx hb dX12_isRoom_37 rfl (lv_at hl 0 rfl) ?_
            refine va_get (D := D) (ci := 12) (v := .int v12) (C := RX12) (T := TX12) (N := 42) hx hb hts iT_X12 hown hK hP 1 rfl rfl 12 (by decide) (hts _ tw_6_65) (fun _ h9 => h9) rfl dX12_isRoom_38 ?_
            refine lv_if_ne (tgt := 48) hx hb dX12_isRoom_41 (by decide) (fun h_12 => ?_) (fun h_12 => ?_)
            · skip
              have zh_12 : ¬ v12.toInt = 0 := z_ne h_12
              refine lv_iconst (v := 0) hx hb dX12_isRoom_48 (by decide) ?_
              obtain ⟨hP9, hD9⟩ := sub2 hP hD (ws' := [(mo, .inr (12, [.int v0, .ref m1, .ref m2, .ref m3, .ref m4, .ref m5, .int v6, .int v7, .int v8, .int v9, .int v10, .long v11, .int v12, .int v13, .int v14, .int v15, .ref m16, .ref m17, .ref m18, .ref m19, .ref m20, .ref m21, .ref m22, .ref m23, .int v24, .ref m25, .ref m26, .ref m27, .ref m28, .ref m29, .int v30, .ref m31, .ref m32, .ref m33, .int v34, .int v35, .int v36, .ref m37, .ref m38, .ref m39, .ref m40, .long v41])), (m5, .inl (k 1, 1000, .inl f5)), (m17, .inl (k 0, 30, .inl f17))]) [1, 0, 2] (by decide +kernel) rfl
              exact W.zret (v := 0) hx hb hr (by decide) (fun tZ ht hW => ⟨⟨0, (v7, v8, v9, v10, v11, v12, v13), rfl, ⟨(show 0 ≤ 0 ∧ 0 ≤ 1 from by omega), (show 0 ≤ v7.toInt ∧ v7.toInt ≤ 1000 from by omega), (show v7.toInt ≤ v7.toInt ∧ v7.toInt ≤ v6.toInt from by omega), (Or.inl (show (0 : Int) = 0 from rfl)), (show 0 = 0 ∨ v12.toInt = 0 from by omega)⟩, by rw [ht]; exact hP9, va_K.moved hW.alike hK, hD9⟩, hS.F ht⟩) hS.2.2 dX12_isRoom_49
            · skip
              have zh_12 : v12.toInt = 0 := z_eq h_12
              refine lv_iconst (v := 1) hx hb dX12_isRoom_44 (by decide) ?_
              refine lv_goto (tgt := 49) hx hb dX12_isRoom_45 (by decide) ?_
              obtain ⟨hP9, hD9⟩ := sub2 hP hD (ws' := [(mo, .inr (12, [.int v0, .ref m1, .ref m2, .ref m3, .ref m4, .ref m5, .int v6, .int v7, .int v8, .int v9, .int v10, .long v11, .int v12, .int v13, .int v14, .int v15, .ref m16, .ref m17, .ref m18, .ref m19, .ref m20, .ref m21, .ref m22, .ref m23, .int v24, .ref m25, .ref m26, .ref m27, .ref m28, .ref m29, .int v30, .ref m31, .ref m32, .ref m33, .int v34, .int v35, .int v36, .ref m37, .ref m38, .ref m39, .ref m40, .long v41])), (m5, .inl (k 1, 1000, .inl f5)), (m17, .inl (k 0, 30, .inl f17))]) [1, 0, 2] (by decide +kernel) rfl
              exact W.zret (v := 1) hx hb hr (by decide) (fun tZ ht hW => ⟨⟨1, (v7, v8, v9, v10, v11, v12, v13), rfl, ⟨(show 0 ≤ 1 ∧ 1 ≤ 1 from by omega), (show 0 ≤ v7.toInt ∧ v7.toInt ≤ 1000 from by omega), (show v7.toInt ≤ v7.toInt ∧ v7.toInt ≤ v6.toInt from by omega), (show 1 = 0 ∨ (f17 27).toInt ≤ 5 from by rw [← hw_7]; omega), (show 1 = 0 ∨ v12.toInt = 0 from by omega)⟩, by rw [ht]; exact hP9, va_K.moved hW.alike hK, hD9⟩, hS.F ht⟩) hS.2.2 dX12_isRoom_49
        · skip
          have zh_10 : v12.toInt = 0 := z_eq h_10
          refine lv_aload_n hx hb dX12_isRoom_29 rfl (lv_at hl 0 rfl) ?_
          obtain ⟨hPc, hDc, hFc⟩ := sub3 hP hD hS hA (ws' := [(mo, .inr (12, [.int v0, .ref m1, .ref m2, .ref m3, .ref m4, .ref m5, .int v6, .int v7, .int v8, .int v9, .int v10, .long v11, .int v12, .int v13, .int v14, .int v15, .ref m16, .ref m17, .ref m18, .ref m19, .ref m20, .ref m21, .ref m22, .ref m23, .int v24, .ref m25, .ref m26, .ref m27, .ref m28, .ref m29, .int v30, .ref m31, .ref m32, .ref m33, .int v34, .int v35, .int v36, .ref m37, .ref m38, .ref m39, .ref m40, .long v41])), (m5, .inl (k 1, 1000, .inl f5))]) [1, 0] (by decide +kernel) rfl
          refine va_callv (va_runV (C := RX12) (As := []) (rest := []) ⟨hx, hb, hml, hown, hts⟩ (c_X12_next l D k mo v0 m1 m2 m3 m4 m5 v6 v7 v8 v9 v10 v11 v12 v13 v14 v15 m16 m17 m18 m19 m20 m21 m22 m23 v24 m25 m26 m27 m28 m29 v30 m31 m32 m33 v34 v35 v36 m37 m38 m39 m40 v41 f5 H.size (show 0 ≤ v6.toInt ∧ v6.toInt ≤ 1000 from by omega) (show 0 ≤ v7.toInt ∧ v7.toInt ≤ 1000 from by omega) (show 0 ≤ v24.toInt ∧ v24.toInt ≤ 1023 from by omega) (show v7.toInt ≤ v6.toInt from by omega)) (cwV 0 hts (gV tw_6_234 tw_6_236 tw_p_39 tw_1_13 tw_6_237) rfl rfl rfl hdV_X12_next ⟨Nat.le_of_ble_eq_true rfl, Nat.le_of_ble_eq_true rfl⟩) (cz_V hK hPc hDc hN (ci := 12) (q0 := 0) rfl rfl []) rfl rfl hl.1 rfl (lv_room (Nat.le_of_ble_eq_true rfl)) dX12_isRoom_30 ⟨Nat.le_of_ble_eq_true rfl, Nat.le_of_ble_eq_true rfl⟩) hS (fun q _ h => hFc q h) hFc (fun uZ tZ H1 locs ht hvm hw hB hz1 hk1 hS => ?_)
          obtain ⟨o_14, o_15, o_16, o_17, o_18⟩ := uZ
          obtain ⟨hP1, hK1, hD1⟩ := hB
          rw [ht] at hP1
          obtain ⟨hP, hD⟩ := va_join (wr := [(m17, .inl (k 0, 30, .inl f17))]) (w1 := [(mo, .inr (12, [.int v0, .ref m1, .ref m2, .ref m3, .ref m4, .ref m5, .int v6, .int o_14, .int o_15, .int o_16, .int o_17, .long o_18, .int v12, .int v13, .int v14, .int v15, .ref m16, .ref m17, .ref m18, .ref m19, .ref m20, .ref m21, .ref m22, .ref m23, .int v24, .ref m25, .ref m26, .ref m27, .ref m28, .ref m29, .int v30, .ref m31, .ref m32, .ref m33, .int v34, .int v35, .int v36, .ref m37, .ref m38, .ref m39, .ref m40, .long v41])), (m5, .inl (k 1, 1000, .inl f5))]) hP hD [1, 0] [2] rfl rfl (by decide +kernel) (by decide +kernel) hk1 hFc hP1 hD1
          clear hK1 hP1 hD1 hPc hDc hFc
          clear hk1 hz1 ht hvm
          have hP : va_P D vwCl [(m17, .inl (k 0, 30, .inl f17)), (mo, .inr (12, [.int v0, .ref m1, .ref m2, .ref m3, .ref m4, .ref m5, .int v6, .int o_14, .int o_15, .int o_16, .int o_17, .long o_18, .int v12, .int v13, .int v14, .int v15, .ref m16, .ref m17, .ref m18, .ref m19, .ref m20, .ref m21, .ref m22, .ref m23, .int v24, .ref m25, .ref m26, .ref m27, .ref m28, .ref m29, .int v30, .ref m31, .ref m32, .ref m33, .int v34, .int v35, .int v36, .ref m37, .ref m38, .ref m39, .ref m40, .long v41])), (m5, .inl (k 1, 1000, .inl f5))] H1 := hP
          have hD : va_D A [(m17, .inl (k 0, 30, .inl f17)), (mo, .inr (12, [.int v0, .ref m1, .ref m2, .ref m3, .ref m4, .ref m5, .int v6, .int o_14, .int o_15, .int o_16, .int o_17, .long o_18, .int v12, .int v13, .int v14, .int v15, .ref m16, .ref m17, .ref m18, .ref m19, .ref m20, .ref m21, .ref m22, .ref m23, .int v24, .ref m25, .ref m26, .ref m27, .ref m28, .ref m29, .int v30, .ref m31, .ref m32, .ref m33, .int v34, .int v35, .int v36, .ref m37, .ref m38, .ref m39, .ref m40, .long v41])), (m5, .inl (k 1, 1000, .inl f5))] := hD
          generalize H1 = H at hP hS ⊢
          have hw_19 : (0 ≤ o_14.toInt ∧ o_14.toInt ≤ 1000) ∧ (0 ≤ o_15.toInt ∧ o_15.toInt ≤ 4) ∧ (0 ≤ o_16.toInt ∧ o_16.toInt ≤ 1000) ∧ (v7.toInt ≤ o_14.toInt ∧ o_14.toInt ≤ v6.toInt) ∧ (o_15.toInt = 0 ∨ v7.toInt < o_14.toInt) := hw
          obtain ⟨hw_20, hw_21, hw_22, hw_23, hw_24⟩ := hw_19
          clear hw
          refine lv_iload_n hx hb dX12_isRoom_33 rfl (lv_at hl 1 rfl) ?_
          refine lv_if_eq (tgt := 48) hx hb dX12_isRoom_34 (by decide) (fun h_25 => ?_) (fun h_25 => ?_)
          · skip
            have zh_25 : p0.toInt = 0 := z_eq h_25
            exact False.elim (by omega)
          · skip
            have zh_25 : ¬ p0.toInt = 0 := z_ne h_25
            refine lv_aload_n hx hb dX12_isRoom_37 rfl (lv_at hl 0 rfl) ?_
            refine va_get (D := D) (ci := 12) (v := .int v12) (C := RX12) (T := TX12) (N := 42) hx hb hts iT_X12 hown hK hP 1 rfl rfl 12 (by decide) (hts _ tw_6_65) (fun _ h9 => h9) rfl dX12_isRoom_38 ?_
            refine lv_if_ne (tgt := 48) hx hb dX12_isRoom_41 (by decide) (fun h_26 => ?_) (fun h_26 => ?_)
            · skip
              have zh_26 : ¬ v12.toInt = 0 := z_ne h_26
              exact False.elim (by omega)
            · skip
              have zh_26 : v12.toInt = 0 := z_eq h_26
              refine lv_iconst (v := 1) hx hb dX12_isRoom_44 (by decide) ?_
              refine lv_goto (tgt := 49) hx hb dX12_isRoom_45 (by decide) ?_
              obtain ⟨hP9, hD9⟩ := sub2 hP hD (ws' := [(mo, .inr (12, [.int v0, .ref m1, .ref m2, .ref m3, .ref m4, .ref m5, .int v6, .int o_14, .int o_15, .int o_16, .int o_17, .long o_18, .int v12, .int v13, .int v14, .int v15, .ref m16, .ref m17, .ref m18, .ref m19, .ref m20, .ref m21, .ref m22, .ref m23, .int v24, .ref m25, .ref m26, .ref m27, .ref m28, .ref m29, .int v30, .ref m31, .ref m32, .ref m33, .int v34, .int v35, .int v36, .ref m37, .ref m38, .ref m39, .ref m40, .long v41])), (m5, .inl (k 1, 1000, .inl f5)), (m17, .inl (k 0, 30, .inl f17))]) [1, 2, 0] (by decide +kernel) rfl
              exact W.zret (v := 1) hx hb hr (by decide) (fun tZ ht hW => ⟨⟨1, (o_14, o_15, o_16, o_17, o_18, v12, v13), rfl, ⟨(show 0 ≤ 1 ∧ 1 ≤ 1 from by omega), (show 0 ≤ o_14.toInt ∧ o_14.toInt ≤ 1000 from by omega), (show v7.toInt ≤ o_14.toInt ∧ o_14.toInt ≤ v6.toInt from by omega), (show 1 = 0 ∨ (f17 27).toInt ≤ 5 from by rw [← hw_7]; omega), (show 1 = 0 ∨ v12.toInt = 0 from by omega)⟩, by rw [ht]; exact hP9, va_K.moved hW.alike hK, hD9⟩, hS.F ht⟩) hS.2.2 dX12_isRoom_49
    · skip
      have zh_8 : r_4.toInt = 6 := z_eq h_8
      refine lv_aload_n hx hb dX12_isRoom_13 rfl (lv_at hl 0 rfl) ?_
      refine lv_iconst (v := 3) hx hb dX12_isRoom_14 (by decide) ?_
      obtain ⟨hPc, hDc, hFc⟩ := sub3 hP hD hS hA (ws' := [(mo, .inr (12, [.int v0, .ref m1, .ref m2, .ref m3, .ref m4, .ref m5, .int v6, .int v7, .int v8, .int v9, .int v10, .long v11, .int v12, .int v13, .int v14, .int v15, .ref m16, .ref m17, .ref m18, .ref m19, .ref m20, .ref m21, .ref m22, .ref m23, .int v24, .ref m25, .ref m26, .ref m27, .ref m28, .ref m29, .int v30, .ref m31, .ref m32, .ref m33, .int v34, .int v35, .int v36, .ref m37, .ref m38, .ref m39, .ref m40, .long v41]))]) [1] (by decide +kernel) rfl
      refine va_callv (va_runV (C := RX12) (As := [.int 3]) (rest := []) ⟨hx, hb, hml, hown, hts⟩ (c_X12_fails l D k mo 3 v0 m1 m2 m3 m4 m5 v6 v7 v8 v9 v10 v11 v12 v13 v14 v15 m16 m17 m18 m19 m20 m21 m22 m23 v24 m25 m26 m27 m28 m29 v30 m31 m32 m33 v34 v35 v36 m37 m38 m39 m40 v41 H.size (show 0 ≤ v6.toInt ∧ v6.toInt ≤ 1000 from by omega) (show 0 ≤ v24.toInt ∧ v24.toInt ≤ 1023 from by omega)) (cwV 1 hts (gV tw_7_24 tw_7_26 tw_p_45 tw_1_13 tw_7_27) rfl rfl rfl hdV_X12_fails ⟨Nat.le_of_ble_eq_true rfl, Nat.le_of_ble_eq_true rfl⟩) (cz_V hK hPc hDc hN (ci := 12) (q0 := 0) rfl rfl [.int 3]) rfl rfl hl.1 rfl (lv_room (Nat.le_of_ble_eq_true rfl)) dX12_isRoom_15 ⟨Nat.le_of_ble_eq_true rfl, Nat.le_of_ble_eq_true rfl⟩) hS (fun q _ h => hFc q h) hFc (fun uZ tZ H1 locs ht hvm hw hB hz1 hk1 hS => ?_)
      obtain ⟨o_28, o_29⟩ := uZ
      obtain ⟨hP1, hK1, hD1⟩ := hB
      rw [ht] at hP1
      obtain ⟨hP, hD⟩ := va_join (wr := [(m5, .inl (k 1, 1000, .inl f5)), (m17, .inl (k 0, 30, .inl f17))]) (w1 := [(mo, .inr (12, [.int v0, .ref m1, .ref m2, .ref m3, .ref m4, .ref m5, .int v6, .int v7, .int v8, .int v9, .int v10, .long v11, .int o_28, .int o_29, .int v14, .int v15, .ref m16, .ref m17, .ref m18, .ref m19, .ref m20, .ref m21, .ref m22, .ref m23, .int v24, .ref m25, .ref m26, .ref m27, .ref m28, .ref m29, .int v30, .ref m31, .ref m32, .ref m33, .int v34, .int v35, .int v36, .ref m37, .ref m38, .ref m39, .ref m40, .long v41]))]) hP hD [1] [0, 2] rfl rfl (by decide +kernel) (by decide +kernel) hk1 hFc hP1 hD1
      clear hK1 hP1 hD1 hPc hDc hFc
      clear hk1 hz1 ht hvm
      have hP : va_P D vwCl [(m5, .inl (k 1, 1000, .inl f5)), (m17, .inl (k 0, 30, .inl f17)), (mo, .inr (12, [.int v0, .ref m1, .ref m2, .ref m3, .ref m4, .ref m5, .int v6, .int v7, .int v8, .int v9, .int v10, .long v11, .int o_28, .int o_29, .int v14, .int v15, .ref m16, .ref m17, .ref m18, .ref m19, .ref m20, .ref m21, .ref m22, .ref m23, .int v24, .ref m25, .ref m26, .ref m27, .ref m28, .ref m29, .int v30, .ref m31, .ref m32, .ref m33, .int v34, .int v35, .int v36, .ref m37, .ref m38, .ref m39, .ref m40, .long v41]))] H1 := hP
      have hD : va_D A [(m5, .inl (k 1, 1000, .inl f5)), (m17, .inl (k 0, 30, .inl f17)), (mo, .inr (12, [.int v0, .ref m1, .ref m2, .ref m3, .ref m4, .ref m5, .int v6, .int v7, .int v8, .int v9, .int v10, .long v11, .int o_28, .int o_29, .int v14, .int v15, .ref m16, .ref m17, .ref m18, .ref m19, .ref m20, .ref m21, .ref m22, .ref m23, .int v24, .ref m25, .ref m26, .ref m27, .ref m28, .ref m29, .int v30, .ref m31, .ref m32, .ref m33, .int v34, .int v35, .int v36, .ref m37, .ref m38, .ref m39, .ref m40, .long v41]))] := hD
      generalize H1 = H at hP hS ⊢
      have hw_30 : ((v12.toInt = 0 ∧ o_28.toInt = 3) ∨ (¬ v12.toInt = 0 ∧ o_28.toInt = v12.toInt)) := hw
      have hw_31 := hw_30
      clear hw
      refine lv_iload_n hx hb dX12_isRoom_18 rfl (lv_at hl 1 rfl) ?_
      refine lv_if_eq (tgt := 33) hx hb dX12_isRoom_19 (by decide) (fun h_32 => ?_) (fun h_32 => ?_)
      · skip
        have zh_32 : p0.toInt = 0 := z_eq h_32
        exact False.elim (by omega)
      · skip
        have zh_32 : ¬ p0.toInt = 0 := z_ne h_32
        refine lv_aload_n hx hb dX12_isRoom_22 rfl (lv_at hl 0 rfl) ?_
        refine va_get (D := D) (ci := 12) (v := .int o_28) (C := RX12) (T := TX12) (N := 42) hx hb hts iT_X12 hown hK hP 2 rfl rfl 12 (by decide) (hts _ tw_6_65) (fun _ h9 => h9) rfl dX12_isRoom_23 ?_
        refine lv_if_ne (tgt := 33) hx hb dX12_isRoom_26 (by decide) (fun h_33 => ?_) (fun h_33 => ?_)
        · skip
          have zh_33 : ¬ o_28.toInt = 0 := z_ne h_33
          refine lv_iload_n hx hb dX12_isRoom_33 rfl (lv_at hl 1 rfl) ?_
          refine lv_if_eq (tgt := 48) hx hb dX12_isRoom_34 (by decide) (fun h_34 => ?_) (fun h_34 => ?_)
          · skip
            have zh_34 : p0.toInt = 0 := z_eq h_34
            exact False.elim (by omega)
          · skip
            have zh_34 : ¬ p0.toInt = 0 := z_ne h_34
            refine lv_aload_n hx hb dX12_isRoom_37 rfl (lv_at hl 0 rfl) ?_
            refine va_get (D := D) (ci := 12) (v := .int o_28) (C := RX12) (T := TX12) (N := 42) hx hb hts iT_X12 hown hK hP 2 rfl rfl 12 (by decide) (hts _ tw_6_65) (fun _ h9 => h9) rfl dX12_isRoom_38 ?_
            refine lv_if_ne (tgt := 48) hx hb dX12_isRoom_41 (by decide) (fun h_35 => ?_) (fun h_35 => ?_)
            · skip
              have zh_35 : ¬ o_28.toInt = 0 := z_ne h_35
              refine lv_iconst (v := 0) hx hb dX12_isRoom_48 (by decide) ?_
              obtain ⟨hP9, hD9⟩ := sub2 hP hD (ws' := [(mo, .inr (12, [.int v0, .ref m1, .ref m2, .ref m3, .ref m4, .ref m5, .int v6, .int v7, .int v8, .int v9, .int v10, .long v11, .int o_28, .int o_29, .int v14, .int v15, .ref m16, .ref m17, .ref m18, .ref m19, .ref m20, .ref m21, .ref m22, .ref m23, .int v24, .ref m25, .ref m26, .ref m27, .ref m28, .ref m29, .int v30, .ref m31, .ref m32, .ref m33, .int v34, .int v35, .int v36, .ref m37, .ref m38, .ref m39, .ref m40, .long v41])), (m5, .inl (k 1, 1000, .inl f5)), (m17, .inl (k 0, 30, .inl f17))]) [2, 0, 1] (by decide +kernel) rfl
              exact W.zret (v := 0) hx hb hr (by decide) (fun tZ ht hW => ⟨⟨0, (v7, v8, v9, v10, v11, o_28, o_29), rfl, ⟨(show 0 ≤ 0 ∧ 0 ≤ 1 from by omega), (show 0 ≤ v7.toInt ∧ v7.toInt ≤ 1000 from by omega), (show v7.toInt ≤ v7.toInt ∧ v7.toInt ≤ v6.toInt from by omega), (Or.inl (show (0 : Int) = 0 from rfl)), (show 0 = 0 ∨ o_28.toInt = 0 from by omega)⟩, by rw [ht]; exact hP9, va_K.moved hW.alike hK, hD9⟩, hS.F ht⟩) hS.2.2 dX12_isRoom_49
            · skip
              have zh_35 : o_28.toInt = 0 := z_eq h_35
              refine lv_iconst (v := 1) hx hb dX12_isRoom_44 (by decide) ?_
              refine lv_goto (tgt := 49) hx hb dX12_isRoom_45 (by decide) ?_
              obtain ⟨hP9, hD9⟩ := sub2 hP hD (ws' := [(mo, .inr (12, [.int v0, .ref m1, .ref m2, .ref m3, .ref m4, .ref m5, .int v6, .int v7, .int v8, .int v9, .int v10, .long v11, .int o_28, .int o_29, .int v14, .int v15, .ref m16, .ref m17, .ref m18, .ref m19, .ref m20, .ref m21, .ref m22, .ref m23, .int v24, .ref m25, .ref m26, .ref m27, .ref m28, .ref m29, .int v30, .ref m31, .ref m32, .ref m33, .int v34, .int v35, .int v36, .ref m37, .ref m38, .ref m39, .ref m40, .long v41])), (m5, .inl (k 1, 1000, .inl f5)), (m17, .inl (k 0, 30, .inl f17))]) [2, 0, 1] (by decide +kernel) rfl
              exact W.zret (v := 1) hx hb hr (by decide) (fun tZ ht hW => ⟨⟨1, (v7, v8, v9, v10, v11, o_28, o_29), rfl, ⟨(show 0 ≤ 1 ∧ 1 ≤ 1 from by omega), (show 0 ≤ v7.toInt ∧ v7.toInt ≤ 1000 from by omega), (show v7.toInt ≤ v7.toInt ∧ v7.toInt ≤ v6.toInt from by omega), (show 1 = 0 ∨ (f17 27).toInt ≤ 5 from by rw [← hw_7]; omega), (show 1 = 0 ∨ o_28.toInt = 0 from by omega)⟩, by rw [ht]; exact hP9, va_K.moved hW.alike hK, hD9⟩, hS.F ht⟩) hS.2.2 dX12_isRoom_49
        · skip
          have zh_33 : o_28.toInt = 0 := z_eq h_33
          refine lv_aload_n hx hb dX12_isRoom_29 rfl (lv_at hl 0 rfl) ?_
          obtain ⟨hPc, hDc, hFc⟩ := sub3 hP hD hS hA (ws' := [(mo, .inr (12, [.int v0, .ref m1, .ref m2, .ref m3, .ref m4, .ref m5, .int v6, .int v7, .int v8, .int v9, .int v10, .long v11, .int o_28, .int o_29, .int v14, .int v15, .ref m16, .ref m17, .ref m18, .ref m19, .ref m20, .ref m21, .ref m22, .ref m23, .int v24, .ref m25, .ref m26, .ref m27, .ref m28, .ref m29, .int v30, .ref m31, .ref m32, .ref m33, .int v34, .int v35, .int v36, .ref m37, .ref m38, .ref m39, .ref m40, .long v41])), (m5, .inl (k 1, 1000, .inl f5))]) [2, 0] (by decide +kernel) rfl
          refine va_callv (va_runV (C := RX12) (As := []) (rest := []) ⟨hx, hb, hml, hown, hts⟩ (c_X12_next l D k mo v0 m1 m2 m3 m4 m5 v6 v7 v8 v9 v10 v11 o_28 o_29 v14 v15 m16 m17 m18 m19 m20 m21 m22 m23 v24 m25 m26 m27 m28 m29 v30 m31 m32 m33 v34 v35 v36 m37 m38 m39 m40 v41 f5 H.size (show 0 ≤ v6.toInt ∧ v6.toInt ≤ 1000 from by omega) (show 0 ≤ v7.toInt ∧ v7.toInt ≤ 1000 from by omega) (show 0 ≤ v24.toInt ∧ v24.toInt ≤ 1023 from by omega) (show v7.toInt ≤ v6.toInt from by omega)) (cwV 0 hts (gV tw_6_234 tw_6_236 tw_p_39 tw_1_13 tw_6_237) rfl rfl rfl hdV_X12_next ⟨Nat.le_of_ble_eq_true rfl, Nat.le_of_ble_eq_true rfl⟩) (cz_V hK hPc hDc hN (ci := 12) (q0 := 0) rfl rfl []) rfl rfl hl.1 rfl (lv_room (Nat.le_of_ble_eq_true rfl)) dX12_isRoom_30 ⟨Nat.le_of_ble_eq_true rfl, Nat.le_of_ble_eq_true rfl⟩) hS (fun q _ h => hFc q h) hFc (fun uZ tZ H1 locs ht hvm hw hB hz1 hk1 hS => ?_)
          obtain ⟨o_37, o_38, o_39, o_40, o_41⟩ := uZ
          obtain ⟨hP1, hK1, hD1⟩ := hB
          rw [ht] at hP1
          obtain ⟨hP, hD⟩ := va_join (wr := [(m17, .inl (k 0, 30, .inl f17))]) (w1 := [(mo, .inr (12, [.int v0, .ref m1, .ref m2, .ref m3, .ref m4, .ref m5, .int v6, .int o_37, .int o_38, .int o_39, .int o_40, .long o_41, .int o_28, .int o_29, .int v14, .int v15, .ref m16, .ref m17, .ref m18, .ref m19, .ref m20, .ref m21, .ref m22, .ref m23, .int v24, .ref m25, .ref m26, .ref m27, .ref m28, .ref m29, .int v30, .ref m31, .ref m32, .ref m33, .int v34, .int v35, .int v36, .ref m37, .ref m38, .ref m39, .ref m40, .long v41])), (m5, .inl (k 1, 1000, .inl f5))]) hP hD [2, 0] [1] rfl rfl (by decide +kernel) (by decide +kernel) hk1 hFc hP1 hD1
          clear hK1 hP1 hD1 hPc hDc hFc
          clear hk1 hz1 ht hvm
          have hP : va_P D vwCl [(m17, .inl (k 0, 30, .inl f17)), (mo, .inr (12, [.int v0, .ref m1, .ref m2, .ref m3, .ref m4, .ref m5, .int v6, .int o_37, .int o_38, .int o_39, .int o_40, .long o_41, .int o_28, .int o_29, .int v14, .int v15, .ref m16, .ref m17, .ref m18, .ref m19, .ref m20, .ref m21, .ref m22, .ref m23, .int v24, .ref m25, .ref m26, .ref m27, .ref m28, .ref m29, .int v30, .ref m31, .ref m32, .ref m33, .int v34, .int v35, .int v36, .ref m37, .ref m38, .ref m39, .ref m40, .long v41])), (m5, .inl (k 1, 1000, .inl f5))] H1 := hP
          have hD : va_D A [(m17, .inl (k 0, 30, .inl f17)), (mo, .inr (12, [.int v0, .ref m1, .ref m2, .ref m3, .ref m4, .ref m5, .int v6, .int o_37, .int o_38, .int o_39, .int o_40, .long o_41, .int o_28, .int o_29, .int v14, .int v15, .ref m16, .ref m17, .ref m18, .ref m19, .ref m20, .ref m21, .ref m22, .ref m23, .int v24, .ref m25, .ref m26, .ref m27, .ref m28, .ref m29, .int v30, .ref m31, .ref m32, .ref m33, .int v34, .int v35, .int v36, .ref m37, .ref m38, .ref m39, .ref m40, .long v41])), (m5, .inl (k 1, 1000, .inl f5))] := hD
          generalize H1 = H at hP hS ⊢
          have hw_42 : (0 ≤ o_37.toInt ∧ o_37.toInt ≤ 1000) ∧ (0 ≤ o_38.toInt ∧ o_38.toInt ≤ 4) ∧ (0 ≤ o_39.toInt ∧ o_39.toInt ≤ 1000) ∧ (v7.toInt ≤ o_37.toInt ∧ o_37.toInt ≤ v6.toInt) ∧ (o_38.toInt = 0 ∨ v7.toInt < o_37.toInt) := hw
          obtain ⟨hw_43, hw_44, hw_45, hw_46, hw_47⟩ := hw_42
          clear hw
          refine lv_iload_n hx hb dX12_isRoom_33 rfl (lv_at hl 1 rfl) ?_
          refine lv_if_eq (tgt := 48) hx hb dX12_isRoom_34 (by decide) (fun h_48 => ?_) (fun h_48 => ?_)
          · skip
            have zh_48 : p0.toInt = 0 := z_eq h_48
            exact False.elim (by omega)
          · skip
            have zh_48 : ¬ p0.toInt = 0 := z_ne h_48
            refine lv_aload_n hx hb dX12_isRoom_37 rfl (lv_at hl 0 rfl) ?_
            refine va_get (D := D) (ci := 12) (v := .int o_28) (C := RX12) (T := TX12) (N := 42) hx hb hts iT_X12 hown hK hP 1 rfl rfl 12 (by decide) (hts _ tw_6_65) (fun _ h9 => h9) rfl dX12_isRoom_38 ?_
            refine lv_if_ne (tgt := 48) hx hb dX12_isRoom_41 (by decide) (fun h_49 => ?_) (fun h_49 => ?_)
            · skip
              have zh_49 : ¬ o_28.toInt = 0 := z_ne h_49
              exact False.elim (by omega)
            · skip
              have zh_49 : o_28.toInt = 0 := z_eq h_49
              refine lv_iconst (v := 1) hx hb dX12_isRoom_44 (by decide) ?_
              refine lv_goto (tgt := 49) hx hb dX12_isRoom_45 (by decide) ?_
              obtain ⟨hP9, hD9⟩ := sub2 hP hD (ws' := [(mo, .inr (12, [.int v0, .ref m1, .ref m2, .ref m3, .ref m4, .ref m5, .int v6, .int o_37, .int o_38, .int o_39, .int o_40, .long o_41, .int o_28, .int o_29, .int v14, .int v15, .ref m16, .ref m17, .ref m18, .ref m19, .ref m20, .ref m21, .ref m22, .ref m23, .int v24, .ref m25, .ref m26, .ref m27, .ref m28, .ref m29, .int v30, .ref m31, .ref m32, .ref m33, .int v34, .int v35, .int v36, .ref m37, .ref m38, .ref m39, .ref m40, .long v41])), (m5, .inl (k 1, 1000, .inl f5)), (m17, .inl (k 0, 30, .inl f17))]) [1, 2, 0] (by decide +kernel) rfl
              exact W.zret (v := 1) hx hb hr (by decide) (fun tZ ht hW => ⟨⟨1, (o_37, o_38, o_39, o_40, o_41, o_28, o_29), rfl, ⟨(show 0 ≤ 1 ∧ 1 ≤ 1 from by omega), (show 0 ≤ o_37.toInt ∧ o_37.toInt ≤ 1000 from by omega), (show v7.toInt ≤ o_37.toInt ∧ o_37.toInt ≤ v6.toInt from by omega), (show 1 = 0 ∨ (f17 27).toInt ≤ 5 from by rw [← hw_7]; omega), (show 1 = 0 ∨ o_28.toInt = 0 from by omega)⟩, by rw [ht]; exact hP9, va_K.moved hW.alike hK, hD9⟩, hS.F ht⟩) hS.2.2 dX12_isRoom_49
set_option maxHeartbeats 4000000 in
set_option maxRecDepth 100000 in
theorem c_X12_isRoom_3 (l : Launch) (D : va_G) (k : Nat → ClassId) (mo : Nat) (p0 : Int32) (v0 : Int32) (m1 : Nat) (m2 : Nat) (m3 : Nat) (m4 : Nat) (m5 : Nat) (v6 : Int32) (v7 : Int32) (v8 : Int32) (v9 : Int32) (v10 : Int32) (v11 : Int64) (v12 : Int32) (v13 : Int32) (v14 : Int32) (v15 : Int32) (m16 : Nat) (m17 : Nat) (m18 : Nat) (m19 : Nat) (m20 : Nat) (m21 : Nat) (m22 : Nat) (m23 : Nat) (v24 : Int32) (m25 : Nat) (m26 : Nat) (m27 : Nat) (m28 : Nat) (m29 : Nat) (v30 : Int32) (m31 : Nat) (m32 : Nat) (m33 : Nat) (v34 : Int32) (v35 : Int32) (v36 : Int32) (m37 : Nat) (m38 : Nat) (m39 : Nat) (m40 : Nat) (v41 : Int64) (f5 : Nat → Int32) (f17 : Nat → Int32) (sz : Nat) (h_p0 : 0 ≤ p0.toInt ∧ p0.toInt ≤ 1) (h_v6 : 0 ≤ v6.toInt ∧ v6.toInt ≤ 1000) (h_v7 : 0 ≤ v7.toInt ∧ v7.toInt ≤ 1000) (h_v24 : 0 ≤ v24.toInt ∧ v24.toInt ≤ 1023) (hp_f17_0 : PR 30 6 0 0 8 f17) (hp_f17_1 : PR 30 6 1 0 10 f17) (hp_f17_2 : PR 30 6 2 0 4 f17) (hp_f17_3 : PR 30 6 3 0 6 f17) (hp_f17_4 : PR 30 6 4 0 2 f17) (hp_f17_5 : PR 30 6 5 0 40 f17) (hat : v7.toInt ≤ v6.toInt) : Met l yX12_isRoom (ww yX12_isRoom cX12_isRoom 4 (some .boolean)) ({ frames := 2, cells := 0, slots := 0, locals := 44 }) (Pre0 D k [(mo, .inr (12, [.int v0, .ref m1, .ref m2, .ref m3, .ref m4, .ref m5, .int v6, .int v7, .int v8, .int v9, .int v10, .long v11, .int v12, .int v13, .int v14, .int v15, .ref m16, .ref m17, .ref m18, .ref m19, .ref m20, .ref m21, .ref m22, .ref m23, .int v24, .ref m25, .ref m26, .ref m27, .ref m28, .ref m29, .int v30, .ref m31, .ref m32, .ref m33, .int v34, .int v35, .int v36, .ref m37, .ref m38, .ref m39, .ref m40, .long v41])), (m5, .inl (k 1, 1000, .inl f5)), (m17, .inl (k 0, 30, .inl f17))] sz [.ref mo, .int p0, .int 4, .int 2]) (va_Qi (fun (r : Int32) (u : Int32 × Int32 × Int32 × Int32 × Int64 × Int32 × Int32) => match u with | (v7z, v8z, v9z, v10z, v11z, v12z, v13z) => (0 ≤ r.toInt ∧ r.toInt ≤ 1) ∧ (0 ≤ v7z.toInt ∧ v7z.toInt ≤ 1000) ∧ (v7.toInt ≤ v7z.toInt ∧ v7z.toInt ≤ v6.toInt) ∧ (r.toInt = 0 ∨ (f17 28).toInt ≤ 1) ∧ (r.toInt = 0 ∨ v12z.toInt = 0)) (fun (u : Int32 × Int32 × Int32 × Int32 × Int64 × Int32 × Int32) tZ => match u with | (v7z, v8z, v9z, v10z, v11z, v12z, v13z) => Bw D k (va_A [(mo, .inr (12, [.int v0, .ref m1, .ref m2, .ref m3, .ref m4, .ref m5, .int v6, .int v7, .int v8, .int v9, .int v10, .long v11, .int v12, .int v13, .int v14, .int v15, .ref m16, .ref m17, .ref m18, .ref m19, .ref m20, .ref m21, .ref m22, .ref m23, .int v24, .ref m25, .ref m26, .ref m27, .ref m28, .ref m29, .int v30, .ref m31, .ref m32, .ref m33, .int v34, .int v35, .int v36, .ref m37, .ref m38, .ref m39, .ref m40, .long v41])), (m5, .inl (k 1, 1000, .inl f5)), (m17, .inl (k 0, 30, .inl f17))] sz) [(mo, .inr (12, [.int v0, .ref m1, .ref m2, .ref m3, .ref m4, .ref m5, .int v6, .int v7z, .int v8z, .int v9z, .int v10z, .long v11z, .int v12z, .int v13z, .int v14, .int v15, .ref m16, .ref m17, .ref m18, .ref m19, .ref m20, .ref m21, .ref m22, .ref m23, .int v24, .ref m25, .ref m26, .ref m27, .ref m28, .ref m29, .int v30, .ref m31, .ref m32, .ref m33, .int v34, .int v35, .int v36, .ref m37, .ref m38, .ref m39, .ref m40, .long v41])), (m5, .inl (k 1, 1000, .inl f5)), (m17, .inl (k 0, 30, .inl f17))] tZ) (va_A [(mo, .inr (12, [.int v0, .ref m1, .ref m2, .ref m3, .ref m4, .ref m5, .int v6, .int v7, .int v8, .int v9, .int v10, .long v11, .int v12, .int v13, .int v14, .int v15, .ref m16, .ref m17, .ref m18, .ref m19, .ref m20, .ref m21, .ref m22, .ref m23, .int v24, .ref m25, .ref m26, .ref m27, .ref m28, .ref m29, .int v30, .ref m31, .ref m32, .ref m33, .int v34, .int v35, .int v36, .ref m37, .ref m38, .ref m39, .ref m40, .long v41])), (m5, .inl (k 1, 1000, .inl f5)), (m17, .inl (k 0, 30, .inl f17))] sz)) 0 0 (va_A [(mo, .inr (12, [.int v0, .ref m1, .ref m2, .ref m3, .ref m4, .ref m5, .int v6, .int v7, .int v8, .int v9, .int v10, .long v11, .int v12, .int v13, .int v14, .int v15, .ref m16, .ref m17, .ref m18, .ref m19, .ref m20, .ref m21, .ref m22, .ref m23, .int v24, .ref m25, .ref m26, .ref m27, .ref m28, .ref m29, .int v30, .ref m31, .ref m32, .ref m33, .int v34, .int v35, .int v36, .ref m37, .ref m38, .ref m39, .ref m40, .long v41])), (m5, .inl (k 1, 1000, .inl f5)), (m17, .inl (k 0, 30, .inl f17))] sz) := by
  refine Met.ofW (cc := cX12_isRoom) (maxL := 4) (ret := (some .boolean)) (by decide +kernel) rfl ?_
  intro p e s m args below meth c s₁ B hml hv
  obtain ⟨rfl, hsz, hP, hK, hD0, hN⟩ := hv
  have hx := B.exec
  have hb := B.bytes
  have hr := B.returns
  have hts : ∀ w ∈ TT, w.before _ s = true := fun w h => atoms_spec (ws := ww yX12_isRoom cX12_isRoom 4 (some .boolean)) B.pre w (List.mem_cons_of_mem _ h)
  have hown : s.vm.findClass RX12 = some m.cls := findClass_of_methodNamed B.named
  have hlocks := B.notSynchronized
  subst hsz
  have hD := hD0.self (sz := s.heap.size)
  generalize hAe : va_A [(mo, .inr (12, [.int v0, .ref m1, .ref m2, .ref m3, .ref m4, .ref m5, .int v6, .int v7, .int v8, .int v9, .int v10, .long v11, .int v12, .int v13, .int v14, .int v15, .ref m16, .ref m17, .ref m18, .ref m19, .ref m20, .ref m21, .ref m22, .ref m23, .int v24, .ref m25, .ref m26, .ref m27, .ref m28, .ref m29, .int v30, .ref m31, .ref m32, .ref m33, .int v34, .int v35, .int v36, .ref m37, .ref m38, .ref m39, .ref m40, .long v41])), (m5, .inl (k 1, 1000, .inl f5)), (m17, .inl (k 0, 30, .inl f17))] s.heap.size = A at hD ⊢
  have hA : ∀ q : Nat, s.heap.size ≤ q → A q := fun q h => by rw [← hAe]; exact Or.inr h
  have hS : va_S A s.heap s.heap [] := va_S.rf
  have hl := lv_entry ([.ref mo, .int p0, .int 4, .int 2]) (n := 4) (Nat.le_of_ble_eq_true rfl)
  rw [lg_entry_eq]
  generalize (lg_sl ([.ref mo, .int p0, .int 4, .int 2]) ++ List.replicate (4 - (lg_sl ([.ref mo, .int p0, .int 4, .int 2])).length) Slot.unset).toArray = ls at hl ⊢
  have hl : lv_has ls 4 [(0, .ref mo), (1, .int p0), (2, .int 4), (3, .int 2)] := hl
  refine lv_iload_n hx hb dX12_isRoom_0 rfl (lv_at hl 1 rfl) ?_
  refine lv_if_eq (tgt := 18) hx hb dX12_isRoom_1 (by decide) (fun h_1 => ?_) (fun h_1 => ?_)
  · skip
    have zh_1 : p0.toInt = 0 := z_eq h_1
    refine lv_iload_n hx hb dX12_isRoom_18 rfl (lv_at hl 1 rfl) ?_
    refine lv_if_eq (tgt := 33) hx hb dX12_isRoom_19 (by decide) (fun h_2 => ?_) (fun h_2 => ?_)
    · skip
      have zh_2 : p0.toInt = 0 := z_eq h_2
      refine lv_iload_n hx hb dX12_isRoom_33 rfl (lv_at hl 1 rfl) ?_
      refine lv_if_eq (tgt := 48) hx hb dX12_isRoom_34 (by decide) (fun h_3 => ?_) (fun h_3 => ?_)
      · skip
        have zh_3 : p0.toInt = 0 := z_eq h_3
        refine lv_iconst (v := 0) hx hb dX12_isRoom_48 (by decide) ?_
        obtain ⟨hP9, hD9⟩ := sub2 hP hD (ws' := [(mo, .inr (12, [.int v0, .ref m1, .ref m2, .ref m3, .ref m4, .ref m5, .int v6, .int v7, .int v8, .int v9, .int v10, .long v11, .int v12, .int v13, .int v14, .int v15, .ref m16, .ref m17, .ref m18, .ref m19, .ref m20, .ref m21, .ref m22, .ref m23, .int v24, .ref m25, .ref m26, .ref m27, .ref m28, .ref m29, .int v30, .ref m31, .ref m32, .ref m33, .int v34, .int v35, .int v36, .ref m37, .ref m38, .ref m39, .ref m40, .long v41])), (m5, .inl (k 1, 1000, .inl f5)), (m17, .inl (k 0, 30, .inl f17))]) [0, 1, 2] (by decide +kernel) rfl
        exact W.zret (v := 0) hx hb hr (by decide) (fun tZ ht hW => ⟨⟨0, (v7, v8, v9, v10, v11, v12, v13), rfl, ⟨(show 0 ≤ 0 ∧ 0 ≤ 1 from by omega), (show 0 ≤ v7.toInt ∧ v7.toInt ≤ 1000 from by omega), (show v7.toInt ≤ v7.toInt ∧ v7.toInt ≤ v6.toInt from by omega), (Or.inl (show (0 : Int) = 0 from rfl)), (show 0 = 0 ∨ v12.toInt = 0 from by omega)⟩, by rw [ht]; exact hP9, va_K.moved hW.alike hK, hD9⟩, hS.F ht⟩) hS.2.2 dX12_isRoom_49
      · skip
        have zh_3 : ¬ p0.toInt = 0 := z_ne h_3
        exact False.elim (by omega)
    · skip
      have zh_2 : ¬ p0.toInt = 0 := z_ne h_2
      exact False.elim (by omega)
  · skip
    have zh_1 : ¬ p0.toInt = 0 := z_ne h_1
    refine lv_aload_n hx hb dX12_isRoom_4 rfl (lv_at hl 0 rfl) ?_
    refine lv_iload_n hx hb dX12_isRoom_5 rfl (lv_at hl 2 rfl) ?_
    obtain ⟨hPc, hDc, hFc⟩ := sub3 hP hD hS hA (ws' := [(mo, .inr (12, [.int v0, .ref m1, .ref m2, .ref m3, .ref m4, .ref m5, .int v6, .int v7, .int v8, .int v9, .int v10, .long v11, .int v12, .int v13, .int v14, .int v15, .ref m16, .ref m17, .ref m18, .ref m19, .ref m20, .ref m21, .ref m22, .ref m23, .int v24, .ref m25, .ref m26, .ref m27, .ref m28, .ref m29, .int v30, .ref m31, .ref m32, .ref m33, .int v34, .int v35, .int v36, .ref m37, .ref m38, .ref m39, .ref m40, .long v41])), (m17, .inl (k 0, 30, .inl f17))]) [0, 2] (by decide +kernel) rfl
    refine va_calli (va_runV (C := RX12) (As := [.int 4]) (rest := []) ⟨hx, hb, hml, hown, hts⟩ (c_X12_hasRead_4 l D k mo v0 m1 m2 m3 m4 m5 v6 v7 v8 v9 v10 v11 v12 v13 v14 v15 m16 m17 m18 m19 m20 m21 m22 m23 v24 m25 m26 m27 m28 m29 v30 m31 m32 m33 v34 v35 v36 m37 m38 m39 m40 v41 f17 s.heap.size (show 0 ≤ v6.toInt ∧ v6.toInt ≤ 1000 from by omega) (show 0 ≤ v24.toInt ∧ v24.toInt ≤ 1023 from by omega) hp_f17_0 hp_f17_1 hp_f17_2 hp_f17_3 hp_f17_4 hp_f17_5) (cwV 1 hts (gV tw_7_46 tw_7_48 tw_p_50 tw_1_13 tw_7_49) rfl rfl rfl hdV_X12_hasRead ⟨Nat.le_of_ble_eq_true rfl, Nat.le_of_ble_eq_true rfl⟩) (cz_V hK hPc hDc hN (ci := 12) (q0 := 0) rfl rfl [.int 4]) rfl rfl hl.1 rfl (lv_room (Nat.le_of_ble_eq_true rfl)) dX12_isRoom_6 ⟨Nat.le_of_ble_eq_true rfl, Nat.le_of_ble_eq_true rfl⟩) hS (fun q _ h => hFc q h) hFc (fun r_4 uZ tZ H1 locs ht hvm hw hB hz1 hk1 hS => ?_)
    obtain ⟨hP1, hK1, hD1⟩ := hB
    rw [ht] at hP1
    obtain ⟨hP, hD⟩ := va_join (wr := [(m5, .inl (k 1, 1000, .inl f5))]) (w1 := [(mo, .inr (12, [.int v0, .ref m1, .ref m2, .ref m3, .ref m4, .ref m5, .int v6, .int v7, .int v8, .int v9, .int v10, .long v11, .int v12, .int v13, .int v14, .int v15, .ref m16, .ref m17, .ref m18, .ref m19, .ref m20, .ref m21, .ref m22, .ref m23, .int v24, .ref m25, .ref m26, .ref m27, .ref m28, .ref m29, .int v30, .ref m31, .ref m32, .ref m33, .int v34, .int v35, .int v36, .ref m37, .ref m38, .ref m39, .ref m40, .long v41])), (m17, .inl (k 0, 30, .inl f17))]) hP hD [0, 2] [1] rfl rfl (by decide +kernel) (by decide +kernel) hk1 hFc hP1 hD1
    clear hK1 hP1 hD1 hPc hDc hFc
    clear hk1 hz1 ht hvm
    have hP : va_P D vwCl [(m5, .inl (k 1, 1000, .inl f5)), (mo, .inr (12, [.int v0, .ref m1, .ref m2, .ref m3, .ref m4, .ref m5, .int v6, .int v7, .int v8, .int v9, .int v10, .long v11, .int v12, .int v13, .int v14, .int v15, .ref m16, .ref m17, .ref m18, .ref m19, .ref m20, .ref m21, .ref m22, .ref m23, .int v24, .ref m25, .ref m26, .ref m27, .ref m28, .ref m29, .int v30, .ref m31, .ref m32, .ref m33, .int v34, .int v35, .int v36, .ref m37, .ref m38, .ref m39, .ref m40, .long v41])), (m17, .inl (k 0, 30, .inl f17))] H1 := hP
    have hD : va_D A [(m5, .inl (k 1, 1000, .inl f5)), (mo, .inr (12, [.int v0, .ref m1, .ref m2, .ref m3, .ref m4, .ref m5, .int v6, .int v7, .int v8, .int v9, .int v10, .long v11, .int v12, .int v13, .int v14, .int v15, .ref m16, .ref m17, .ref m18, .ref m19, .ref m20, .ref m21, .ref m22, .ref m23, .int v24, .ref m25, .ref m26, .ref m27, .ref m28, .ref m29, .int v30, .ref m31, .ref m32, .ref m33, .int v34, .int v35, .int v36, .ref m37, .ref m38, .ref m39, .ref m40, .long v41])), (m17, .inl (k 0, 30, .inl f17))] := hD
    generalize H1 = H at hP hS ⊢
    have hw_5 : (0 ≤ r_4.toInt ∧ r_4.toInt ≤ 2) ∧ (r_4 = f17 28) := hw
    obtain ⟨hw_6, hw_7⟩ := hw_5
    clear hw
    refine lv_iload_n hx hb dX12_isRoom_9 rfl (lv_at hl 3 rfl) ?_
    refine lv_icmp_ne (tgt := 18) hx hb dX12_isRoom_10 (by decide) (fun h_8 => ?_) (fun h_8 => ?_)
    · skip
      have zh_8 : ¬ r_4.toInt = 2 := z_ne h_8
      refine lv_iload_n hx hb dX12_isRoom_18 rfl (lv_at hl 1 rfl) ?_
      refine lv_if_eq (tgt := 33) hx hb dX12_isRoom_19 (by decide) (fun h_9 => ?_) (fun h_9 => ?_)
      · skip
        have zh_9 : p0.toInt = 0 := z_eq h_9
        exact False.elim (by omega)
      · skip
        have zh_9 : ¬ p0.toInt = 0 := z_ne h_9
        refine lv_aload_n hx hb dX12_isRoom_22 rfl (lv_at hl 0 rfl) ?_
        refine va_get (D := D) (ci := 12) (v := .int v12) (C := RX12) (T := TX12) (N := 42) hx hb hts iT_X12 hown hK hP 1 rfl rfl 12 (by decide) (hts _ tw_6_65) (fun _ h9 => h9) rfl dX12_isRoom_23 ?_
        refine lv_if_ne (tgt := 33) hx hb dX12_isRoom_26 (by decide) (fun h_10 => ?_) (fun h_10 => ?_)
        · skip
          have zh_10 : ¬ v12.toInt = 0 := z_ne h_10
          refine lv_iload_n hx hb dX12_isRoom_33 rfl (lv_at hl 1 rfl) ?_
          refine lv_if_eq (tgt := 48) hx hb dX12_isRoom_34 (by decide) (fun h_11 => ?_) (fun h_11 => ?_)
          · skip
            have zh_11 : p0.toInt = 0 := z_eq h_11
            exact False.elim (by omega)
          · skip
            have zh_11 : ¬ p0.toInt = 0 := z_ne h_11
            refine lv_aload_n hx hb dX12_isRoom_37 rfl (lv_at hl 0 rfl) ?_
            refine va_get (D := D) (ci := 12) (v := .int v12) (C := RX12) (T := TX12) (N := 42) hx hb hts iT_X12 hown hK hP 1 rfl rfl 12 (by decide) (hts _ tw_6_65) (fun _ h9 => h9) rfl dX12_isRoom_38 ?_
            refine lv_if_ne (tgt := 48) hx hb dX12_isRoom_41 (by decide) (fun h_12 => ?_) (fun h_12 => ?_)
            · skip
              have zh_12 : ¬ v12.toInt = 0 := z_ne h_12
              refine lv_iconst (v := 0) hx hb dX12_isRoom_48 (by decide) ?_
              obtain ⟨hP9, hD9⟩ := sub2 hP hD (ws' := [(mo, .inr (12, [.int v0, .ref m1, .ref m2, .ref m3, .ref m4, .ref m5, .int v6, .int v7, .int v8, .int v9, .int v10, .long v11, .int v12, .int v13, .int v14, .int v15, .ref m16, .ref m17, .ref m18, .ref m19, .ref m20, .ref m21, .ref m22, .ref m23, .int v24, .ref m25, .ref m26, .ref m27, .ref m28, .ref m29, .int v30, .ref m31, .ref m32, .ref m33, .int v34, .int v35, .int v36, .ref m37, .ref m38, .ref m39, .ref m40, .long v41])), (m5, .inl (k 1, 1000, .inl f5)), (m17, .inl (k 0, 30, .inl f17))]) [1, 0, 2] (by decide +kernel) rfl
              exact W.zret (v := 0) hx hb hr (by decide) (fun tZ ht hW => ⟨⟨0, (v7, v8, v9, v10, v11, v12, v13), rfl, ⟨(show 0 ≤ 0 ∧ 0 ≤ 1 from by omega), (show 0 ≤ v7.toInt ∧ v7.toInt ≤ 1000 from by omega), (show v7.toInt ≤ v7.toInt ∧ v7.toInt ≤ v6.toInt from by omega), (Or.inl (show (0 : Int) = 0 from rfl)), (show 0 = 0 ∨ v12.toInt = 0 from by omega)⟩, by rw [ht]; exact hP9, va_K.moved hW.alike hK, hD9⟩, hS.F ht⟩) hS.2.2 dX12_isRoom_49
            · skip
              have zh_12 : v12.toInt = 0 := z_eq h_12
              refine lv_iconst (v := 1) hx hb dX12_isRoom_44 (by decide) ?_
              refine lv_goto (tgt := 49) hx hb dX12_isRoom_45 (by decide) ?_
              obtain ⟨hP9, hD9⟩ := sub2 hP hD (ws' := [(mo, .inr (12, [.int v0, .ref m1, .ref m2, .ref m3, .ref m4, .ref m5, .int v6, .int v7, .int v8, .int v9, .int v10, .long v11, .int v12, .int v13, .int v14, .int v15, .ref m16, .ref m17, .ref m18, .ref m19, .ref m20, .ref m21, .ref m22, .ref m23, .int v24, .ref m25, .ref m26, .ref m27, .ref m28, .ref m29, .int v30, .ref m31, .ref m32, .ref m33, .int v34, .int v35, .int v36, .ref m37, .ref m38, .ref m39, .ref m40, .long v41])), (m5, .inl (k 1, 1000, .inl f5)), (m17, .inl (k 0, 30, .inl f17))]) [1, 0, 2] (by decide +kernel) rfl
              exact W.zret (v := 1) hx hb hr (by decide) (fun tZ ht hW => ⟨⟨1, (v7, v8, v9, v10, v11, v12, v13), rfl, ⟨(show 0 ≤ 1 ∧ 1 ≤ 1 from by omega), (show 0 ≤ v7.toInt ∧ v7.toInt ≤ 1000 from by omega), (show v7.toInt ≤ v7.toInt ∧ v7.toInt ≤ v6.toInt from by omega), (show 1 = 0 ∨ (f17 28).toInt ≤ 1 from by rw [← hw_7]; omega), (show 1 = 0 ∨ v12.toInt = 0 from by omega)⟩, by rw [ht]; exact hP9, va_K.moved hW.alike hK, hD9⟩, hS.F ht⟩) hS.2.2 dX12_isRoom_49
        · skip
          have zh_10 : v12.toInt = 0 := z_eq h_10
          refine lv_aload_n hx hb dX12_isRoom_29 rfl (lv_at hl 0 rfl) ?_
          obtain ⟨hPc, hDc, hFc⟩ := sub3 hP hD hS hA (ws' := [(mo, .inr (12, [.int v0, .ref m1, .ref m2, .ref m3, .ref m4, .ref m5, .int v6, .int v7, .int v8, .int v9, .int v10, .long v11, .int v12, .int v13, .int v14, .int v15, .ref m16, .ref m17, .ref m18, .ref m19, .ref m20, .ref m21, .ref m22, .ref m23, .int v24, .ref m25, .ref m26, .ref m27, .ref m28, .ref m29, .int v30, .ref m31, .ref m32, .ref m33, .int v34, .int v35, .int v36, .ref m37, .ref m38, .ref m39, .ref m40, .long v41])), (m5, .inl (k 1, 1000, .inl f5))]) [1, 0] (by decide +kernel) rfl
          refine va_callv (va_runV (C := RX12) (As := []) (rest := []) ⟨hx, hb, hml, hown, hts⟩ (c_X12_next l D k mo v0 m1 m2 m3 m4 m5 v6 v7 v8 v9 v10 v11 v12 v13 v14 v15 m16 m17 m18 m19 m20 m21 m22 m23 v24 m25 m26 m27 m28 m29 v30 m31 m32 m33 v34 v35 v36 m37 m38 m39 m40 v41 f5 H.size (show 0 ≤ v6.toInt ∧ v6.toInt ≤ 1000 from by omega) (show 0 ≤ v7.toInt ∧ v7.toInt ≤ 1000 from by omega) (show 0 ≤ v24.toInt ∧ v24.toInt ≤ 1023 from by omega) (show v7.toInt ≤ v6.toInt from by omega)) (cwV 0 hts (gV tw_6_234 tw_6_236 tw_p_39 tw_1_13 tw_6_237) rfl rfl rfl hdV_X12_next ⟨Nat.le_of_ble_eq_true rfl, Nat.le_of_ble_eq_true rfl⟩) (cz_V hK hPc hDc hN (ci := 12) (q0 := 0) rfl rfl []) rfl rfl hl.1 rfl (lv_room (Nat.le_of_ble_eq_true rfl)) dX12_isRoom_30 ⟨Nat.le_of_ble_eq_true rfl, Nat.le_of_ble_eq_true rfl⟩) hS (fun q _ h => hFc q h) hFc (fun uZ tZ H1 locs ht hvm hw hB hz1 hk1 hS => ?_)
          obtain ⟨o_14, o_15, o_16, o_17, o_18⟩ := uZ
          obtain ⟨hP1, hK1, hD1⟩ := hB
          rw [ht] at hP1
          obtain ⟨hP, hD⟩ := va_join (wr := [(m17, .inl (k 0, 30, .inl f17))]) (w1 := [(mo, .inr (12, [.int v0, .ref m1, .ref m2, .ref m3, .ref m4, .ref m5, .int v6, .int o_14, .int o_15, .int o_16, .int o_17, .long o_18, .int v12, .int v13, .int v14, .int v15, .ref m16, .ref m17, .ref m18, .ref m19, .ref m20, .ref m21, .ref m22, .ref m23, .int v24, .ref m25, .ref m26, .ref m27, .ref m28, .ref m29, .int v30, .ref m31, .ref m32, .ref m33, .int v34, .int v35, .int v36, .ref m37, .ref m38, .ref m39, .ref m40, .long v41])), (m5, .inl (k 1, 1000, .inl f5))]) hP hD [1, 0] [2] rfl rfl (by decide +kernel) (by decide +kernel) hk1 hFc hP1 hD1
          clear hK1 hP1 hD1 hPc hDc hFc
          clear hk1 hz1 ht hvm
          have hP : va_P D vwCl [(m17, .inl (k 0, 30, .inl f17)), (mo, .inr (12, [.int v0, .ref m1, .ref m2, .ref m3, .ref m4, .ref m5, .int v6, .int o_14, .int o_15, .int o_16, .int o_17, .long o_18, .int v12, .int v13, .int v14, .int v15, .ref m16, .ref m17, .ref m18, .ref m19, .ref m20, .ref m21, .ref m22, .ref m23, .int v24, .ref m25, .ref m26, .ref m27, .ref m28, .ref m29, .int v30, .ref m31, .ref m32, .ref m33, .int v34, .int v35, .int v36, .ref m37, .ref m38, .ref m39, .ref m40, .long v41])), (m5, .inl (k 1, 1000, .inl f5))] H1 := hP
          have hD : va_D A [(m17, .inl (k 0, 30, .inl f17)), (mo, .inr (12, [.int v0, .ref m1, .ref m2, .ref m3, .ref m4, .ref m5, .int v6, .int o_14, .int o_15, .int o_16, .int o_17, .long o_18, .int v12, .int v13, .int v14, .int v15, .ref m16, .ref m17, .ref m18, .ref m19, .ref m20, .ref m21, .ref m22, .ref m23, .int v24, .ref m25, .ref m26, .ref m27, .ref m28, .ref m29, .int v30, .ref m31, .ref m32, .ref m33, .int v34, .int v35, .int v36, .ref m37, .ref m38, .ref m39, .ref m40, .long v41])), (m5, .inl (k 1, 1000, .inl f5))] := hD
          generalize H1 = H at hP hS ⊢
          have hw_19 : (0 ≤ o_14.toInt ∧ o_14.toInt ≤ 1000) ∧ (0 ≤ o_15.toInt ∧ o_15.toInt ≤ 4) ∧ (0 ≤ o_16.toInt ∧ o_16.toInt ≤ 1000) ∧ (v7.toInt ≤ o_14.toInt ∧ o_14.toInt ≤ v6.toInt) ∧ (o_15.toInt = 0 ∨ v7.toInt < o_14.toInt) := hw
          obtain ⟨hw_20, hw_21, hw_22, hw_23, hw_24⟩ := hw_19
          clear hw
          refine lv_iload_n hx hb dX12_isRoom_33 rfl (lv_at hl 1 rfl) ?_
          refine lv_if_eq (tgt := 48) hx hb dX12_isRoom_34 (by decide) (fun h_25 => ?_) (fun h_25 => ?_)
          · skip
            have zh_25 : p0.toInt = 0 := z_eq h_25
            exact False.elim (by omega)
          · skip
            have zh_25 : ¬ p0.toInt = 0 := z_ne h_25
            refine lv_aload_n hx hb dX12_isRoom_37 rfl (lv_at hl 0 rfl) ?_
            refine va_get (D := D) (ci := 12) (v := .int v12) (C := RX12) (T := TX12) (N := 42) hx hb hts iT_X12 hown hK hP 1 rfl rfl 12 (by decide) (hts _ tw_6_65) (fun _ h9 => h9) rfl dX12_isRoom_38 ?_
            refine lv_if_ne (tgt := 48) hx hb dX12_isRoom_41 (by decide) (fun h_26 => ?_) (fun h_26 => ?_)
            · skip
              have zh_26 : ¬ v12.toInt = 0 := z_ne h_26
              exact False.elim (by omega)
            · skip
              have zh_26 : v12.toInt = 0 := z_eq h_26
              refine lv_iconst (v := 1) hx hb dX12_isRoom_44 (by decide) ?_
              refine lv_goto (tgt := 49) hx hb dX12_isRoom_45 (by decide) ?_
              obtain ⟨hP9, hD9⟩ := sub2 hP hD (ws' := [(mo, .inr (12, [.int v0, .ref m1, .ref m2, .ref m3, .ref m4, .ref m5, .int v6, .int o_14, .int o_15, .int o_16, .int o_17, .long o_18, .int v12, .int v13, .int v14, .int v15, .ref m16, .ref m17, .ref m18, .ref m19, .ref m20, .ref m21, .ref m22, .ref m23, .int v24, .ref m25, .ref m26, .ref m27, .ref m28, .ref m29, .int v30, .ref m31, .ref m32, .ref m33, .int v34, .int v35, .int v36, .ref m37, .ref m38, .ref m39, .ref m40, .long v41])), (m5, .inl (k 1, 1000, .inl f5)), (m17, .inl (k 0, 30, .inl f17))]) [1, 2, 0] (by decide +kernel) rfl
              exact W.zret (v := 1) hx hb hr (by decide) (fun tZ ht hW => ⟨⟨1, (o_14, o_15, o_16, o_17, o_18, v12, v13), rfl, ⟨(show 0 ≤ 1 ∧ 1 ≤ 1 from by omega), (show 0 ≤ o_14.toInt ∧ o_14.toInt ≤ 1000 from by omega), (show v7.toInt ≤ o_14.toInt ∧ o_14.toInt ≤ v6.toInt from by omega), (show 1 = 0 ∨ (f17 28).toInt ≤ 1 from by rw [← hw_7]; omega), (show 1 = 0 ∨ v12.toInt = 0 from by omega)⟩, by rw [ht]; exact hP9, va_K.moved hW.alike hK, hD9⟩, hS.F ht⟩) hS.2.2 dX12_isRoom_49
    · skip
      have zh_8 : r_4.toInt = 2 := z_eq h_8
      refine lv_aload_n hx hb dX12_isRoom_13 rfl (lv_at hl 0 rfl) ?_
      refine lv_iconst (v := 3) hx hb dX12_isRoom_14 (by decide) ?_
      obtain ⟨hPc, hDc, hFc⟩ := sub3 hP hD hS hA (ws' := [(mo, .inr (12, [.int v0, .ref m1, .ref m2, .ref m3, .ref m4, .ref m5, .int v6, .int v7, .int v8, .int v9, .int v10, .long v11, .int v12, .int v13, .int v14, .int v15, .ref m16, .ref m17, .ref m18, .ref m19, .ref m20, .ref m21, .ref m22, .ref m23, .int v24, .ref m25, .ref m26, .ref m27, .ref m28, .ref m29, .int v30, .ref m31, .ref m32, .ref m33, .int v34, .int v35, .int v36, .ref m37, .ref m38, .ref m39, .ref m40, .long v41]))]) [1] (by decide +kernel) rfl
      refine va_callv (va_runV (C := RX12) (As := [.int 3]) (rest := []) ⟨hx, hb, hml, hown, hts⟩ (c_X12_fails l D k mo 3 v0 m1 m2 m3 m4 m5 v6 v7 v8 v9 v10 v11 v12 v13 v14 v15 m16 m17 m18 m19 m20 m21 m22 m23 v24 m25 m26 m27 m28 m29 v30 m31 m32 m33 v34 v35 v36 m37 m38 m39 m40 v41 H.size (show 0 ≤ v6.toInt ∧ v6.toInt ≤ 1000 from by omega) (show 0 ≤ v24.toInt ∧ v24.toInt ≤ 1023 from by omega)) (cwV 1 hts (gV tw_7_24 tw_7_26 tw_p_45 tw_1_13 tw_7_27) rfl rfl rfl hdV_X12_fails ⟨Nat.le_of_ble_eq_true rfl, Nat.le_of_ble_eq_true rfl⟩) (cz_V hK hPc hDc hN (ci := 12) (q0 := 0) rfl rfl [.int 3]) rfl rfl hl.1 rfl (lv_room (Nat.le_of_ble_eq_true rfl)) dX12_isRoom_15 ⟨Nat.le_of_ble_eq_true rfl, Nat.le_of_ble_eq_true rfl⟩) hS (fun q _ h => hFc q h) hFc (fun uZ tZ H1 locs ht hvm hw hB hz1 hk1 hS => ?_)
      obtain ⟨o_28, o_29⟩ := uZ
      obtain ⟨hP1, hK1, hD1⟩ := hB
      rw [ht] at hP1
      obtain ⟨hP, hD⟩ := va_join (wr := [(m5, .inl (k 1, 1000, .inl f5)), (m17, .inl (k 0, 30, .inl f17))]) (w1 := [(mo, .inr (12, [.int v0, .ref m1, .ref m2, .ref m3, .ref m4, .ref m5, .int v6, .int v7, .int v8, .int v9, .int v10, .long v11, .int o_28, .int o_29, .int v14, .int v15, .ref m16, .ref m17, .ref m18, .ref m19, .ref m20, .ref m21, .ref m22, .ref m23, .int v24, .ref m25, .ref m26, .ref m27, .ref m28, .ref m29, .int v30, .ref m31, .ref m32, .ref m33, .int v34, .int v35, .int v36, .ref m37, .ref m38, .ref m39, .ref m40, .long v41]))]) hP hD [1] [0, 2] rfl rfl (by decide +kernel) (by decide +kernel) hk1 hFc hP1 hD1
      clear hK1 hP1 hD1 hPc hDc hFc
      clear hk1 hz1 ht hvm
      have hP : va_P D vwCl [(m5, .inl (k 1, 1000, .inl f5)), (m17, .inl (k 0, 30, .inl f17)), (mo, .inr (12, [.int v0, .ref m1, .ref m2, .ref m3, .ref m4, .ref m5, .int v6, .int v7, .int v8, .int v9, .int v10, .long v11, .int o_28, .int o_29, .int v14, .int v15, .ref m16, .ref m17, .ref m18, .ref m19, .ref m20, .ref m21, .ref m22, .ref m23, .int v24, .ref m25, .ref m26, .ref m27, .ref m28, .ref m29, .int v30, .ref m31, .ref m32, .ref m33, .int v34, .int v35, .int v36, .ref m37, .ref m38, .ref m39, .ref m40, .long v41]))] H1 := hP
      have hD : va_D A [(m5, .inl (k 1, 1000, .inl f5)), (m17, .inl (k 0, 30, .inl f17)), (mo, .inr (12, [.int v0, .ref m1, .ref m2, .ref m3, .ref m4, .ref m5, .int v6, .int v7, .int v8, .int v9, .int v10, .long v11, .int o_28, .int o_29, .int v14, .int v15, .ref m16, .ref m17, .ref m18, .ref m19, .ref m20, .ref m21, .ref m22, .ref m23, .int v24, .ref m25, .ref m26, .ref m27, .ref m28, .ref m29, .int v30, .ref m31, .ref m32, .ref m33, .int v34, .int v35, .int v36, .ref m37, .ref m38, .ref m39, .ref m40, .long v41]))] := hD
      generalize H1 = H at hP hS ⊢
      have hw_30 : ((v12.toInt = 0 ∧ o_28.toInt = 3) ∨ (¬ v12.toInt = 0 ∧ o_28.toInt = v12.toInt)) := hw
      have hw_31 := hw_30
      clear hw
      refine lv_iload_n hx hb dX12_isRoom_18 rfl (lv_at hl 1 rfl) ?_
      refine lv_if_eq (tgt := 33) hx hb dX12_isRoom_19 (by decide) (fun h_32 => ?_) (fun h_32 => ?_)
      · skip
        have zh_32 : p0.toInt = 0 := z_eq h_32
        exact False.elim (by omega)
      · skip
        have zh_32 : ¬ p0.toInt = 0 := z_ne h_32
        refine lv_aload_n hx hb dX12_isRoom_22 rfl (lv_at hl 0 rfl) ?_
        refine va_get (D := D) (ci := 12) (v := .int o_28) (C := RX12) (T := TX12) (N := 42) hx hb hts iT_X12 hown hK hP 2 rfl rfl 12 (by decide) (hts _ tw_6_65) (fun _ h9 => h9) rfl dX12_isRoom_23 ?_
        refine lv_if_ne (tgt := 33) hx hb dX12_isRoom_26 (by decide) (fun h_33 => ?_) (fun h_33 => ?_)
        · skip
          have zh_33 : ¬ o_28.toInt = 0 := z_ne h_33
          refine lv_iload_n hx hb dX12_isRoom_33 rfl (lv_at hl 1 rfl) ?_
          refine lv_if_eq (tgt := 48) hx hb dX12_isRoom_34 (by decide) (fun h_34 => ?_) (fun h_34 => ?_)
          · skip
            have zh_34 : p0.toInt = 0 := z_eq h_34
            exact False.elim (by omega)
          · skip
            have zh_34 : ¬ p0.toInt = 0 := z_ne h_34
            refine lv_aload_n hx hb dX12_isRoom_37 rfl (lv_at hl 0 rfl) ?_
            refine va_get (D := D) (ci := 12) (v := .int o_28) (C := RX12) (T := TX12) (N := 42) hx hb hts iT_X12 hown hK hP 2 rfl rfl 12 (by decide) (hts _ tw_6_65) (fun _ h9 => h9) rfl dX12_isRoom_38 ?_
            refine lv_if_ne (tgt := 48) hx hb dX12_isRoom_41 (by decide) (fun h_35 => ?_) (fun h_35 => ?_)
            · skip
              have zh_35 : ¬ o_28.toInt = 0 := z_ne h_35
              refine lv_iconst (v := 0) hx hb dX12_isRoom_48 (by decide) ?_
              obtain ⟨hP9, hD9⟩ := sub2 hP hD (ws' := [(mo, .inr (12, [.int v0, .ref m1, .ref m2, .ref m3, .ref m4, .ref m5, .int v6, .int v7, .int v8, .int v9, .int v10, .long v11, .int o_28, .int o_29, .int v14, .int v15, .ref m16, .ref m17, .ref m18, .ref m19, .ref m20, .ref m21, .ref m22, .ref m23, .int v24, .ref m25, .ref m26, .ref m27, .ref m28, .ref m29, .int v30, .ref m31, .ref m32, .ref m33, .int v34, .int v35, .int v36, .ref m37, .ref m38, .ref m39, .ref m40, .long v41])), (m5, .inl (k 1, 1000, .inl f5)), (m17, .inl (k 0, 30, .inl f17))]) [2, 0, 1] (by decide +kernel) rfl
              exact W.zret (v := 0) hx hb hr (by decide) (fun tZ ht hW => ⟨⟨0, (v7, v8, v9, v10, v11, o_28, o_29), rfl, ⟨(show 0 ≤ 0 ∧ 0 ≤ 1 from by omega), (show 0 ≤ v7.toInt ∧ v7.toInt ≤ 1000 from by omega), (show v7.toInt ≤ v7.toInt ∧ v7.toInt ≤ v6.toInt from by omega), (Or.inl (show (0 : Int) = 0 from rfl)), (show 0 = 0 ∨ o_28.toInt = 0 from by omega)⟩, by rw [ht]; exact hP9, va_K.moved hW.alike hK, hD9⟩, hS.F ht⟩) hS.2.2 dX12_isRoom_49
            · skip
              have zh_35 : o_28.toInt = 0 := z_eq h_35
              refine lv_iconst (v := 1) hx hb dX12_isRoom_44 (by decide) ?_
              refine lv_goto (tgt := 49) hx hb dX12_isRoom_45 (by decide) ?_
              obtain ⟨hP9, hD9⟩ := sub2 hP hD (ws' := [(mo, .inr (12, [.int v0, .ref m1, .ref m2, .ref m3, .ref m4, .ref m5, .int v6, .int v7, .int v8, .int v9, .int v10, .long v11, .int o_28, .int o_29, .int v14, .int v15, .ref m16, .ref m17, .ref m18, .ref m19, .ref m20, .ref m21, .ref m22, .ref m23, .int v24, .ref m25, .ref m26, .ref m27, .ref m28, .ref m29, .int v30, .ref m31, .ref m32, .ref m33, .int v34, .int v35, .int v36, .ref m37, .ref m38, .ref m39, .ref m40, .long v41])), (m5, .inl (k 1, 1000, .inl f5)), (m17, .inl (k 0, 30, .inl f17))]) [2, 0, 1] (by decide +kernel) rfl
              exact W.zret (v := 1) hx hb hr (by decide) (fun tZ ht hW => ⟨⟨1, (v7, v8, v9, v10, v11, o_28, o_29), rfl, ⟨(show 0 ≤ 1 ∧ 1 ≤ 1 from by omega), (show 0 ≤ v7.toInt ∧ v7.toInt ≤ 1000 from by omega), (show v7.toInt ≤ v7.toInt ∧ v7.toInt ≤ v6.toInt from by omega), (show 1 = 0 ∨ (f17 28).toInt ≤ 1 from by rw [← hw_7]; omega), (show 1 = 0 ∨ o_28.toInt = 0 from by omega)⟩, by rw [ht]; exact hP9, va_K.moved hW.alike hK, hD9⟩, hS.F ht⟩) hS.2.2 dX12_isRoom_49
        · skip
          have zh_33 : o_28.toInt = 0 := z_eq h_33
          refine lv_aload_n hx hb dX12_isRoom_29 rfl (lv_at hl 0 rfl) ?_
          obtain ⟨hPc, hDc, hFc⟩ := sub3 hP hD hS hA (ws' := [(mo, .inr (12, [.int v0, .ref m1, .ref m2, .ref m3, .ref m4, .ref m5, .int v6, .int v7, .int v8, .int v9, .int v10, .long v11, .int o_28, .int o_29, .int v14, .int v15, .ref m16, .ref m17, .ref m18, .ref m19, .ref m20, .ref m21, .ref m22, .ref m23, .int v24, .ref m25, .ref m26, .ref m27, .ref m28, .ref m29, .int v30, .ref m31, .ref m32, .ref m33, .int v34, .int v35, .int v36, .ref m37, .ref m38, .ref m39, .ref m40, .long v41])), (m5, .inl (k 1, 1000, .inl f5))]) [2, 0] (by decide +kernel) rfl
          refine va_callv (va_runV (C := RX12) (As := []) (rest := []) ⟨hx, hb, hml, hown, hts⟩ (c_X12_next l D k mo v0 m1 m2 m3 m4 m5 v6 v7 v8 v9 v10 v11 o_28 o_29 v14 v15 m16 m17 m18 m19 m20 m21 m22 m23 v24 m25 m26 m27 m28 m29 v30 m31 m32 m33 v34 v35 v36 m37 m38 m39 m40 v41 f5 H.size (show 0 ≤ v6.toInt ∧ v6.toInt ≤ 1000 from by omega) (show 0 ≤ v7.toInt ∧ v7.toInt ≤ 1000 from by omega) (show 0 ≤ v24.toInt ∧ v24.toInt ≤ 1023 from by omega) (show v7.toInt ≤ v6.toInt from by omega)) (cwV 0 hts (gV tw_6_234 tw_6_236 tw_p_39 tw_1_13 tw_6_237) rfl rfl rfl hdV_X12_next ⟨Nat.le_of_ble_eq_true rfl, Nat.le_of_ble_eq_true rfl⟩) (cz_V hK hPc hDc hN (ci := 12) (q0 := 0) rfl rfl []) rfl rfl hl.1 rfl (lv_room (Nat.le_of_ble_eq_true rfl)) dX12_isRoom_30 ⟨Nat.le_of_ble_eq_true rfl, Nat.le_of_ble_eq_true rfl⟩) hS (fun q _ h => hFc q h) hFc (fun uZ tZ H1 locs ht hvm hw hB hz1 hk1 hS => ?_)
          obtain ⟨o_37, o_38, o_39, o_40, o_41⟩ := uZ
          obtain ⟨hP1, hK1, hD1⟩ := hB
          rw [ht] at hP1
          obtain ⟨hP, hD⟩ := va_join (wr := [(m17, .inl (k 0, 30, .inl f17))]) (w1 := [(mo, .inr (12, [.int v0, .ref m1, .ref m2, .ref m3, .ref m4, .ref m5, .int v6, .int o_37, .int o_38, .int o_39, .int o_40, .long o_41, .int o_28, .int o_29, .int v14, .int v15, .ref m16, .ref m17, .ref m18, .ref m19, .ref m20, .ref m21, .ref m22, .ref m23, .int v24, .ref m25, .ref m26, .ref m27, .ref m28, .ref m29, .int v30, .ref m31, .ref m32, .ref m33, .int v34, .int v35, .int v36, .ref m37, .ref m38, .ref m39, .ref m40, .long v41])), (m5, .inl (k 1, 1000, .inl f5))]) hP hD [2, 0] [1] rfl rfl (by decide +kernel) (by decide +kernel) hk1 hFc hP1 hD1
          clear hK1 hP1 hD1 hPc hDc hFc
          clear hk1 hz1 ht hvm
          have hP : va_P D vwCl [(m17, .inl (k 0, 30, .inl f17)), (mo, .inr (12, [.int v0, .ref m1, .ref m2, .ref m3, .ref m4, .ref m5, .int v6, .int o_37, .int o_38, .int o_39, .int o_40, .long o_41, .int o_28, .int o_29, .int v14, .int v15, .ref m16, .ref m17, .ref m18, .ref m19, .ref m20, .ref m21, .ref m22, .ref m23, .int v24, .ref m25, .ref m26, .ref m27, .ref m28, .ref m29, .int v30, .ref m31, .ref m32, .ref m33, .int v34, .int v35, .int v36, .ref m37, .ref m38, .ref m39, .ref m40, .long v41])), (m5, .inl (k 1, 1000, .inl f5))] H1 := hP
          have hD : va_D A [(m17, .inl (k 0, 30, .inl f17)), (mo, .inr (12, [.int v0, .ref m1, .ref m2, .ref m3, .ref m4, .ref m5, .int v6, .int o_37, .int o_38, .int o_39, .int o_40, .long o_41, .int o_28, .int o_29, .int v14, .int v15, .ref m16, .ref m17, .ref m18, .ref m19, .ref m20, .ref m21, .ref m22, .ref m23, .int v24, .ref m25, .ref m26, .ref m27, .ref m28, .ref m29, .int v30, .ref m31, .ref m32, .ref m33, .int v34, .int v35, .int v36, .ref m37, .ref m38, .ref m39, .ref m40, .long v41])), (m5, .inl (k 1, 1000, .inl f5))] := hD
          generalize H1 = H at hP hS ⊢
          have hw_42 : (0 ≤ o_37.toInt ∧ o_37.toInt ≤ 1000) ∧ (0 ≤ o_38.toInt ∧ o_38.toInt ≤ 4) ∧ (0 ≤ o_39.toInt ∧ o_39.toInt ≤ 1000) ∧ (v7.toInt ≤ o_37.toInt ∧ o_37.toInt ≤ v6.toInt) ∧ (o_38.toInt = 0 ∨ v7.toInt < o_37.toInt) := hw
          obtain ⟨hw_43, hw_44, hw_45, hw_46, hw_47⟩ := hw_42
          clear hw
          refine lv_iload_n hx hb dX12_isRoom_33 rfl (lv_at hl 1 rfl) ?_
          refine lv_if_eq (tgt := 48) hx hb dX12_isRoom_34 (by decide) (fun h_48 => ?_) (fun h_48 => ?_)
          · skip
            have zh_48 : p0.toInt = 0 := z_eq h_48
            exact False.elim (by omega)
          · skip
            have zh_48 : ¬ p0.toInt = 0 := z_ne h_48
            refine lv_aload_n hx hb dX12_isRoom_37 rfl (lv_at hl 0 rfl) ?_
            refine va_get (D := D) (ci := 12) (v := .int o_28) (C := RX12) (T := TX12) (N := 42) hx hb hts iT_X12 hown hK hP 1 rfl rfl 12 (by decide) (hts _ tw_6_65) (fun _ h9 => h9) rfl dX12_isRoom_38 ?_
            refine lv_if_ne (tgt := 48) hx hb dX12_isRoom_41 (by decide) (fun h_49 => ?_) (fun h_49 => ?_)
            · skip
              have zh_49 : ¬ o_28.toInt = 0 := z_ne h_49
              exact False.elim (by omega)
            · skip
              have zh_49 : o_28.toInt = 0 := z_eq h_49
              refine lv_iconst (v := 1) hx hb dX12_isRoom_44 (by decide) ?_
              refine lv_goto (tgt := 49) hx hb dX12_isRoom_45 (by decide) ?_
              obtain ⟨hP9, hD9⟩ := sub2 hP hD (ws' := [(mo, .inr (12, [.int v0, .ref m1, .ref m2, .ref m3, .ref m4, .ref m5, .int v6, .int o_37, .int o_38, .int o_39, .int o_40, .long o_41, .int o_28, .int o_29, .int v14, .int v15, .ref m16, .ref m17, .ref m18, .ref m19, .ref m20, .ref m21, .ref m22, .ref m23, .int v24, .ref m25, .ref m26, .ref m27, .ref m28, .ref m29, .int v30, .ref m31, .ref m32, .ref m33, .int v34, .int v35, .int v36, .ref m37, .ref m38, .ref m39, .ref m40, .long v41])), (m5, .inl (k 1, 1000, .inl f5)), (m17, .inl (k 0, 30, .inl f17))]) [1, 2, 0] (by decide +kernel) rfl
              exact W.zret (v := 1) hx hb hr (by decide) (fun tZ ht hW => ⟨⟨1, (o_37, o_38, o_39, o_40, o_41, o_28, o_29), rfl, ⟨(show 0 ≤ 1 ∧ 1 ≤ 1 from by omega), (show 0 ≤ o_37.toInt ∧ o_37.toInt ≤ 1000 from by omega), (show v7.toInt ≤ o_37.toInt ∧ o_37.toInt ≤ v6.toInt from by omega), (show 1 = 0 ∨ (f17 28).toInt ≤ 1 from by rw [← hw_7]; omega), (show 1 = 0 ∨ o_28.toInt = 0 from by omega)⟩, by rw [ht]; exact hP9, va_K.moved hW.alike hK, hD9⟩, hS.F ht⟩) hS.2.2 dX12_isRoom_49
set_option maxHeartbeats 4000000 in
set_option maxRecDepth 100000 in
theorem c_X12_line (l : Launch) (D : va_G) (k : Nat → ClassId) (mo : Nat) (v0 : Int32) (m1 : Nat) (m2 : Nat) (m3 : Nat) (m4 : Nat) (m5 : Nat) (v6 : Int32) (v7 : Int32) (v8 : Int32) (v9 : Int32) (v10 : Int32) (v11 : Int64) (v12 : Int32) (v13 : Int32) (v14 : Int32) (v15 : Int32) (m16 : Nat) (m17 : Nat) (m18 : Nat) (m19 : Nat) (m20 : Nat) (m21 : Nat) (m22 : Nat) (m23 : Nat) (v24 : Int32) (m25 : Nat) (m26 : Nat) (m27 : Nat) (m28 : Nat) (m29 : Nat) (v30 : Int32) (m31 : Nat) (m32 : Nat) (m33 : Nat) (v34 : Int32) (v35 : Int32) (v36 : Int32) (m37 : Nat) (m38 : Nat) (m39 : Nat) (m40 : Nat) (v41 : Int64) (f5 : Nat → Int32) (f17 : Nat → Int32) (f18 : Nat → Int32) (f19 : Nat → Int32) (f20 : Nat → Int32) (f21 : Nat → Int32) (sz : Nat) (h_v6 : 0 ≤ v6.toInt ∧ v6.toInt ≤ 1000) (h_v7 : 0 ≤ v7.toInt ∧ v7.toInt ≤ 1000) (h_v24 : 0 ≤ v24.toInt ∧ v24.toInt ≤ 1023) (hp_f17_0 : PR 30 6 0 0 8 f17) (hp_f17_1 : PR 30 6 1 0 10 f17) (hp_f17_2 : PR 30 6 2 0 4 f17) (hp_f17_3 : PR 30 6 3 0 6 f17) (hp_f17_4 : PR 30 6 4 0 2 f17) (hp_f17_5 : PR 30 6 5 0 40 f17) (hp_f18_0 : PR 250 5 0 0 7 f18) (hp_f18_1 : PR 250 5 1 0 7 f18) (hp_f18_2 : PR 250 5 2 0 60 f18) (hp_f18_3 : PR 250 5 3 0 10 f18) (hp_f19_0 : PR 40 2 0 0 7 f19) (hp_f19_1 : PR 40 2 1 0 99 f19) (hp_f20_0 : PR 120 4 0 0 7 f20) (hp_f21_0 : PR 20 2 0 0 7 f21) (hp_f21_1 : PR 20 2 1 0 999 f21) (hat : v7.toInt ≤ v6.toInt) (hTK : TK f17 f18) : Met l yX12_line (ww yX12_line cX12_line 2 none) ({ frames := 6, cells := 0, slots := 0, locals := 133 }) (Pre0 D k [(mo, .inr (12, [.int v0, .ref m1, .ref m2, .ref m3, .ref m4, .ref m5, .int v6, .int v7, .int v8, .int v9, .int v10, .long v11, .int v12, .int v13, .int v14, .int v15, .ref m16, .ref m17, .ref m18, .ref m19, .ref m20, .ref m21, .ref m22, .ref m23, .int v24, .ref m25, .ref m26, .ref m27, .ref m28, .ref m29, .int v30, .ref m31, .ref m32, .ref m33, .int v34, .int v35, .int v36, .ref m37, .ref m38, .ref m39, .ref m40, .long v41])), (m5, .inl (k 1, 1000, .inl f5)), (m17, .inl (k 0, 30, .inl f17)), (m18, .inl (k 0, 250, .inl f18)), (m19, .inl (k 0, 40, .inl f19)), (m20, .inl (k 0, 120, .inl f20)), (m21, .inl (k 0, 20, .inl f21))] sz [.ref mo]) (va_Qv (fun (u : Int32 × Int32 × Int32 × Int32 × Int64 × Int32 × Int32 × (Nat → Int32) × (Nat → Int32) × (Nat → Int32) × (Nat → Int32) × (Nat → Int32)) => match u with | (v7z, v8z, v9z, v10z, v11z, v12z, v13z, f17z, f21z, f20z, f19z, f18z) => (0 ≤ v7z.toInt ∧ v7z.toInt ≤ 1000) ∧ (PR 30 6 0 0 8 f17z) ∧ (PR 30 6 1 0 10 f17z) ∧ (PR 30 6 2 0 4 f17z) ∧ (PR 30 6 3 0 6 f17z) ∧ (PR 30 6 4 0 2 f17z) ∧ (PR 30 6 5 0 40 f17z) ∧ (PR 20 2 0 0 7 f21z) ∧ (PR 20 2 1 0 999 f21z) ∧ (PR 120 4 0 0 7 f20z) ∧ (PR 40 2 0 0 7 f19z) ∧ (PR 40 2 1 0 99 f19z) ∧ (PR 250 5 0 0 7 f18z) ∧ (PR 250 5 1 0 7 f18z) ∧ (PR 250 5 2 0 60 f18z) ∧ (PR 250 5 3 0 10 f18z) ∧ (v7.toInt ≤ v7z.toInt ∧ v7z.toInt ≤ v6.toInt) ∧ (TK f17z f18z)) (fun (u : Int32 × Int32 × Int32 × Int32 × Int64 × Int32 × Int32 × (Nat → Int32) × (Nat → Int32) × (Nat → Int32) × (Nat → Int32) × (Nat → Int32)) tZ => match u with | (v7z, v8z, v9z, v10z, v11z, v12z, v13z, f17z, f21z, f20z, f19z, f18z) => Bw D k (va_A [(mo, .inr (12, [.int v0, .ref m1, .ref m2, .ref m3, .ref m4, .ref m5, .int v6, .int v7, .int v8, .int v9, .int v10, .long v11, .int v12, .int v13, .int v14, .int v15, .ref m16, .ref m17, .ref m18, .ref m19, .ref m20, .ref m21, .ref m22, .ref m23, .int v24, .ref m25, .ref m26, .ref m27, .ref m28, .ref m29, .int v30, .ref m31, .ref m32, .ref m33, .int v34, .int v35, .int v36, .ref m37, .ref m38, .ref m39, .ref m40, .long v41])), (m5, .inl (k 1, 1000, .inl f5)), (m17, .inl (k 0, 30, .inl f17)), (m18, .inl (k 0, 250, .inl f18)), (m19, .inl (k 0, 40, .inl f19)), (m20, .inl (k 0, 120, .inl f20)), (m21, .inl (k 0, 20, .inl f21))] sz) [(mo, .inr (12, [.int v0, .ref m1, .ref m2, .ref m3, .ref m4, .ref m5, .int v6, .int v7z, .int v8z, .int v9z, .int v10z, .long v11z, .int v12z, .int v13z, .int v14, .int v15, .ref m16, .ref m17, .ref m18, .ref m19, .ref m20, .ref m21, .ref m22, .ref m23, .int v24, .ref m25, .ref m26, .ref m27, .ref m28, .ref m29, .int v30, .ref m31, .ref m32, .ref m33, .int v34, .int v35, .int v36, .ref m37, .ref m38, .ref m39, .ref m40, .long v41])), (m5, .inl (k 1, 1000, .inl f5)), (m17, .inl (k 0, 30, .inl f17z)), (m18, .inl (k 0, 250, .inl f18z)), (m19, .inl (k 0, 40, .inl f19z)), (m20, .inl (k 0, 120, .inl f20z)), (m21, .inl (k 0, 20, .inl f21z))] tZ) (va_A [(mo, .inr (12, [.int v0, .ref m1, .ref m2, .ref m3, .ref m4, .ref m5, .int v6, .int v7, .int v8, .int v9, .int v10, .long v11, .int v12, .int v13, .int v14, .int v15, .ref m16, .ref m17, .ref m18, .ref m19, .ref m20, .ref m21, .ref m22, .ref m23, .int v24, .ref m25, .ref m26, .ref m27, .ref m28, .ref m29, .int v30, .ref m31, .ref m32, .ref m33, .int v34, .int v35, .int v36, .ref m37, .ref m38, .ref m39, .ref m40, .long v41])), (m5, .inl (k 1, 1000, .inl f5)), (m17, .inl (k 0, 30, .inl f17)), (m18, .inl (k 0, 250, .inl f18)), (m19, .inl (k 0, 40, .inl f19)), (m20, .inl (k 0, 120, .inl f20)), (m21, .inl (k 0, 20, .inl f21))] sz)) 0 0 (va_A [(mo, .inr (12, [.int v0, .ref m1, .ref m2, .ref m3, .ref m4, .ref m5, .int v6, .int v7, .int v8, .int v9, .int v10, .long v11, .int v12, .int v13, .int v14, .int v15, .ref m16, .ref m17, .ref m18, .ref m19, .ref m20, .ref m21, .ref m22, .ref m23, .int v24, .ref m25, .ref m26, .ref m27, .ref m28, .ref m29, .int v30, .ref m31, .ref m32, .ref m33, .int v34, .int v35, .int v36, .ref m37, .ref m38, .ref m39, .ref m40, .long v41])), (m5, .inl (k 1, 1000, .inl f5)), (m17, .inl (k 0, 30, .inl f17)), (m18, .inl (k 0, 250, .inl f18)), (m19, .inl (k 0, 40, .inl f19)), (m20, .inl (k 0, 120, .inl f20)), (m21, .inl (k 0, 20, .inl f21))] sz) := by
  refine Met.ofW (cc := cX12_line) (maxL := 2) (ret := none) (by decide +kernel) rfl ?_
  intro p e s m args below meth c s₁ B hml hv
  obtain ⟨rfl, hsz, hP, hK, hD0, hN⟩ := hv
  have hx := B.exec
  have hb := B.bytes
  have hr := B.returns
  have hts : ∀ w ∈ TT, w.before _ s = true := fun w h => atoms_spec (ws := ww yX12_line cX12_line 2 none) B.pre w (List.mem_cons_of_mem _ h)
  have hown : s.vm.findClass RX12 = some m.cls := findClass_of_methodNamed B.named
  have hlocks := B.notSynchronized
  subst hsz
  have hD := hD0.self (sz := s.heap.size)
  generalize hAe : va_A [(mo, .inr (12, [.int v0, .ref m1, .ref m2, .ref m3, .ref m4, .ref m5, .int v6, .int v7, .int v8, .int v9, .int v10, .long v11, .int v12, .int v13, .int v14, .int v15, .ref m16, .ref m17, .ref m18, .ref m19, .ref m20, .ref m21, .ref m22, .ref m23, .int v24, .ref m25, .ref m26, .ref m27, .ref m28, .ref m29, .int v30, .ref m31, .ref m32, .ref m33, .int v34, .int v35, .int v36, .ref m37, .ref m38, .ref m39, .ref m40, .long v41])), (m5, .inl (k 1, 1000, .inl f5)), (m17, .inl (k 0, 30, .inl f17)), (m18, .inl (k 0, 250, .inl f18)), (m19, .inl (k 0, 40, .inl f19)), (m20, .inl (k 0, 120, .inl f20)), (m21, .inl (k 0, 20, .inl f21))] s.heap.size = A at hD ⊢
  have hA : ∀ q : Nat, s.heap.size ≤ q → A q := fun q h => by rw [← hAe]; exact Or.inr h
  have hS : va_S A s.heap s.heap [] := va_S.rf
  have hl := lv_entry ([.ref mo]) (n := 2) (Nat.le_of_ble_eq_true rfl)
  rw [lg_entry_eq]
  generalize (lg_sl ([.ref mo]) ++ List.replicate (2 - (lg_sl ([.ref mo])).length) Slot.unset).toArray = ls at hl ⊢
  have hl : lv_has ls 2 [(0, .ref mo)] := hl
  refine lv_aload_n hx hb dX12_line_0 rfl (lv_at hl 0 rfl) ?_
  refine lv_aload_n hx hb dX12_line_1 rfl (lv_at hl 0 rfl) ?_
  refine lv_ldc2 (v := 237308) hx hb hown (hts _ tw_7_41) dX12_line_2 ?_
  obtain ⟨hPc, hDc, hFc⟩ := sub3 hP hD hS hA (ws' := [(mo, .inr (12, [.int v0, .ref m1, .ref m2, .ref m3, .ref m4, .ref m5, .int v6, .int v7, .int v8, .int v9, .int v10, .long v11, .int v12, .int v13, .int v14, .int v15, .ref m16, .ref m17, .ref m18, .ref m19, .ref m20, .ref m21, .ref m22, .ref m23, .int v24, .ref m25, .ref m26, .ref m27, .ref m28, .ref m29, .int v30, .ref m31, .ref m32, .ref m33, .int v34, .int v35, .int v36, .ref m37, .ref m38, .ref m39, .ref m40, .long v41]))]) [0] (by decide +kernel) rfl
  refine va_calli (va_runV (C := RX12) (As := [.long 237308]) (rest := [.ref mo]) ⟨hx, hb, hml, hown, hts⟩ (c_X12_is l D k mo 237308 v0 m1 m2 m3 m4 m5 v6 v7 v8 v9 v10 v11 v12 v13 v14 v15 m16 m17 m18 m19 m20 m21 m22 m23 v24 m25 m26 m27 m28 m29 v30 m31 m32 m33 v34 v35 v36 m37 m38 m39 m40 v41 s.heap.size (show 0 ≤ v6.toInt ∧ v6.toInt ≤ 1000 from by omega) (show 0 ≤ v24.toInt ∧ v24.toInt ≤ 1023 from by omega)) (cwV 1 hts (gV tw_7_20 tw_7_22 tw_p_44 tw_1_13 tw_7_23) rfl rfl rfl hdV_X12_is ⟨Nat.le_of_ble_eq_true rfl, Nat.le_of_ble_eq_true rfl⟩) (cz_V hK hPc hDc hN (ci := 12) (q0 := 0) rfl rfl [.long 237308]) rfl rfl hl.1 rfl (lv_room (Nat.le_of_ble_eq_true rfl)) dX12_line_5 ⟨Nat.le_of_ble_eq_true rfl, Nat.le_of_ble_eq_true rfl⟩) hS (fun q _ h => hFc q h) hFc (fun r_1 uZ tZ H1 locs ht hvm hw hB hz1 hk1 hS => ?_)
  obtain ⟨hP1, hK1, hD1⟩ := hB
  rw [ht] at hP1
  obtain ⟨hP, hD⟩ := va_join (wr := [(m5, .inl (k 1, 1000, .inl f5)), (m17, .inl (k 0, 30, .inl f17)), (m18, .inl (k 0, 250, .inl f18)), (m19, .inl (k 0, 40, .inl f19)), (m20, .inl (k 0, 120, .inl f20)), (m21, .inl (k 0, 20, .inl f21))]) (w1 := [(mo, .inr (12, [.int v0, .ref m1, .ref m2, .ref m3, .ref m4, .ref m5, .int v6, .int v7, .int v8, .int v9, .int v10, .long v11, .int v12, .int v13, .int v14, .int v15, .ref m16, .ref m17, .ref m18, .ref m19, .ref m20, .ref m21, .ref m22, .ref m23, .int v24, .ref m25, .ref m26, .ref m27, .ref m28, .ref m29, .int v30, .ref m31, .ref m32, .ref m33, .int v34, .int v35, .int v36, .ref m37, .ref m38, .ref m39, .ref m40, .long v41]))]) hP hD [0] [1, 2, 3, 4, 5, 6] rfl rfl (by decide +kernel) (by decide +kernel) hk1 hFc hP1 hD1
  clear hK1 hP1 hD1 hPc hDc hFc
  clear hk1 hz1 ht hvm
  have hP : va_P D vwCl [(m5, .inl (k 1, 1000, .inl f5)), (m17, .inl (k 0, 30, .inl f17)), (m18, .inl (k 0, 250, .inl f18)), (m19, .inl (k 0, 40, .inl f19)), (m20, .inl (k 0, 120, .inl f20)), (m21, .inl (k 0, 20, .inl f21)), (mo, .inr (12, [.int v0, .ref m1, .ref m2, .ref m3, .ref m4, .ref m5, .int v6, .int v7, .int v8, .int v9, .int v10, .long v11, .int v12, .int v13, .int v14, .int v15, .ref m16, .ref m17, .ref m18, .ref m19, .ref m20, .ref m21, .ref m22, .ref m23, .int v24, .ref m25, .ref m26, .ref m27, .ref m28, .ref m29, .int v30, .ref m31, .ref m32, .ref m33, .int v34, .int v35, .int v36, .ref m37, .ref m38, .ref m39, .ref m40, .long v41]))] H1 := hP
  have hD : va_D A [(m5, .inl (k 1, 1000, .inl f5)), (m17, .inl (k 0, 30, .inl f17)), (m18, .inl (k 0, 250, .inl f18)), (m19, .inl (k 0, 40, .inl f19)), (m20, .inl (k 0, 120, .inl f20)), (m21, .inl (k 0, 20, .inl f21)), (mo, .inr (12, [.int v0, .ref m1, .ref m2, .ref m3, .ref m4, .ref m5, .int v6, .int v7, .int v8, .int v9, .int v10, .long v11, .int v12, .int v13, .int v14, .int v15, .ref m16, .ref m17, .ref m18, .ref m19, .ref m20, .ref m21, .ref m22, .ref m23, .int v24, .ref m25, .ref m26, .ref m27, .ref m28, .ref m29, .int v30, .ref m31, .ref m32, .ref m33, .int v34, .int v35, .int v36, .ref m37, .ref m38, .ref m39, .ref m40, .long v41]))] := hD
  generalize H1 = H at hP hS ⊢
  have hw_2 : (0 ≤ r_1.toInt ∧ r_1.toInt ≤ 1) := hw
  have hw_3 := hw_2
  clear hw
  refine lv_iconst (v := 1) hx hb dX12_line_8 (by decide) ?_
  refine lv_bipush (v := 10) hx hb dX12_line_9 (by decide) ?_
  obtain ⟨hPc, hDc, hFc⟩ := sub3 hP hD hS hA (ws' := [(mo, .inr (12, [.int v0, .ref m1, .ref m2, .ref m3, .ref m4, .ref m5, .int v6, .int v7, .int v8, .int v9, .int v10, .long v11, .int v12, .int v13, .int v14, .int v15, .ref m16, .ref m17, .ref m18, .ref m19, .ref m20, .ref m21, .ref m22, .ref m23, .int v24, .ref m25, .ref m26, .ref m27, .ref m28, .ref m29, .int v30, .ref m31, .ref m32, .ref m33, .int v34, .int v35, .int v36, .ref m37, .ref m38, .ref m39, .ref m40, .long v41])), (m5, .inl (k 1, 1000, .inl f5)), (m17, .inl (k 0, 30, .inl f17))]) [6, 0, 1] (by decide +kernel) rfl
  refine va_calli (va_runV (C := RX12) (As := [.int r_1, .int 1, .int 10]) (rest := []) ⟨hx, hb, hml, hown, hts⟩ (c_X12_isRoom_0 l D k mo r_1 v0 m1 m2 m3 m4 m5 v6 v7 v8 v9 v10 v11 v12 v13 v14 v15 m16 m17 m18 m19 m20 m21 m22 m23 v24 m25 m26 m27 m28 m29 v30 m31 m32 m33 v34 v35 v36 m37 m38 m39 m40 v41 f5 f17 H.size (show 0 ≤ r_1.toInt ∧ r_1.toInt ≤ 1 from by omega) (show 0 ≤ v6.toInt ∧ v6.toInt ≤ 1000 from by omega) (show 0 ≤ v7.toInt ∧ v7.toInt ≤ 1000 from by omega) (show 0 ≤ v24.toInt ∧ v24.toInt ≤ 1023 from by omega) hp_f17_0 hp_f17_1 hp_f17_2 hp_f17_3 hp_f17_4 hp_f17_5 (show v7.toInt ≤ v6.toInt from by omega)) (cwV 3 hts (gV tw_7_42 tw_7_44 tw_p_49 tw_1_13 tw_7_45) rfl rfl rfl hdV_X12_isRoom ⟨Nat.le_of_ble_eq_true rfl, Nat.le_of_ble_eq_true rfl⟩) (cz_V hK hPc hDc hN (ci := 12) (q0 := 0) rfl rfl [.int r_1, .int 1, .int 10]) rfl rfl hl.1 rfl (lv_room (Nat.le_of_ble_eq_true rfl)) dX12_line_11 ⟨Nat.le_of_ble_eq_true rfl, Nat.le_of_ble_eq_true rfl⟩) hS (fun q _ h => hFc q h) hFc (fun r_4 uZ tZ H1 locs ht hvm hw hB hz1 hk1 hS => ?_)
  obtain ⟨o_5, o_6, o_7, o_8, o_9, o_10, o_11⟩ := uZ
  obtain ⟨hP1, hK1, hD1⟩ := hB
  rw [ht] at hP1
  obtain ⟨hP, hD⟩ := va_join (wr := [(m18, .inl (k 0, 250, .inl f18)), (m19, .inl (k 0, 40, .inl f19)), (m20, .inl (k 0, 120, .inl f20)), (m21, .inl (k 0, 20, .inl f21))]) (w1 := [(mo, .inr (12, [.int v0, .ref m1, .ref m2, .ref m3, .ref m4, .ref m5, .int v6, .int o_5, .int o_6, .int o_7, .int o_8, .long o_9, .int o_10, .int o_11, .int v14, .int v15, .ref m16, .ref m17, .ref m18, .ref m19, .ref m20, .ref m21, .ref m22, .ref m23, .int v24, .ref m25, .ref m26, .ref m27, .ref m28, .ref m29, .int v30, .ref m31, .ref m32, .ref m33, .int v34, .int v35, .int v36, .ref m37, .ref m38, .ref m39, .ref m40, .long v41])), (m5, .inl (k 1, 1000, .inl f5)), (m17, .inl (k 0, 30, .inl f17))]) hP hD [6, 0, 1] [2, 3, 4, 5] rfl rfl (by decide +kernel) (by decide +kernel) hk1 hFc hP1 hD1
  clear hK1 hP1 hD1 hPc hDc hFc
  clear hk1 hz1 ht hvm
  have hP : va_P D vwCl [(m18, .inl (k 0, 250, .inl f18)), (m19, .inl (k 0, 40, .inl f19)), (m20, .inl (k 0, 120, .inl f20)), (m21, .inl (k 0, 20, .inl f21)), (mo, .inr (12, [.int v0, .ref m1, .ref m2, .ref m3, .ref m4, .ref m5, .int v6, .int o_5, .int o_6, .int o_7, .int o_8, .long o_9, .int o_10, .int o_11, .int v14, .int v15, .ref m16, .ref m17, .ref m18, .ref m19, .ref m20, .ref m21, .ref m22, .ref m23, .int v24, .ref m25, .ref m26, .ref m27, .ref m28, .ref m29, .int v30, .ref m31, .ref m32, .ref m33, .int v34, .int v35, .int v36, .ref m37, .ref m38, .ref m39, .ref m40, .long v41])), (m5, .inl (k 1, 1000, .inl f5)), (m17, .inl (k 0, 30, .inl f17))] H1 := hP
  have hD : va_D A [(m18, .inl (k 0, 250, .inl f18)), (m19, .inl (k 0, 40, .inl f19)), (m20, .inl (k 0, 120, .inl f20)), (m21, .inl (k 0, 20, .inl f21)), (mo, .inr (12, [.int v0, .ref m1, .ref m2, .ref m3, .ref m4, .ref m5, .int v6, .int o_5, .int o_6, .int o_7, .int o_8, .long o_9, .int o_10, .int o_11, .int v14, .int v15, .ref m16, .ref m17, .ref m18, .ref m19, .ref m20, .ref m21, .ref m22, .ref m23, .int v24, .ref m25, .ref m26, .ref m27, .ref m28, .ref m29, .int v30, .ref m31, .ref m32, .ref m33, .int v34, .int v35, .int v36, .ref m37, .ref m38, .ref m39, .ref m40, .long v41])), (m5, .inl (k 1, 1000, .inl f5)), (m17, .inl (k 0, 30, .inl f17))] := hD
  generalize H1 = H at hP hS ⊢
  have hw_12 : (0 ≤ r_4.toInt ∧ r_4.toInt ≤ 1) ∧ (0 ≤ o_5.toInt ∧ o_5.toInt ≤ 1000) ∧ (v7.toInt ≤ o_5.toInt ∧ o_5.toInt ≤ v6.toInt) ∧ (r_4.toInt = 0 ∨ (f17 25).toInt ≤ 9) ∧ (r_4.toInt = 0 ∨ o_10.toInt = 0) := hw
  obtain ⟨hw_13, hw_14, hw_15, hw_16, hw_17⟩ := hw_12
  clear hw
  refine lv_if_eq (tgt := 24) hx hb dX12_line_14 (by decide) (fun h_18 => ?_) (fun h_18 => ?_)
  · skip
    have zh_18 : r_4.toInt = 0 := z_eq h_18
    refine lv_aload_n hx hb dX12_line_24 rfl (lv_at hl 0 rfl) ?_
    refine va_get (D := D) (ci := 12) (v := .int o_10) (C := RX12) (T := TX12) (N := 42) hx hb hts iT_X12 hown hK hP 4 rfl rfl 12 (by decide) (hts _ tw_6_65) (fun _ h9 => h9) rfl dX12_line_25 ?_
    refine lv_if_ne (tgt := 101) hx hb dX12_line_28 (by decide) (fun h_19 => ?_) (fun h_19 => ?_)
    · skip
      have zh_19 : ¬ o_10.toInt = 0 := z_ne h_19
      refine lv_aload_n hx hb dX12_line_101 rfl (lv_at hl 0 rfl) ?_
      refine va_get (D := D) (ci := 12) (v := .int o_10) (C := RX12) (T := TX12) (N := 42) hx hb hts iT_X12 hown hK hP 4 rfl rfl 12 (by decide) (hts _ tw_6_65) (fun _ h9 => h9) rfl dX12_line_102 ?_
      refine lv_if_ne (tgt := 132) hx hb dX12_line_105 (by decide) (fun h_20 => ?_) (fun h_20 => ?_)
      · skip
        have zh_20 : ¬ o_10.toInt = 0 := z_ne h_20
        refine lv_aload_n hx hb dX12_line_132 rfl (lv_at hl 0 rfl) ?_
        refine va_get (D := D) (ci := 12) (v := .int o_10) (C := RX12) (T := TX12) (N := 42) hx hb hts iT_X12 hown hK hP 4 rfl rfl 12 (by decide) (hts _ tw_6_65) (fun _ h9 => h9) rfl dX12_line_133 ?_
        refine lv_if_ne (tgt := 210) hx hb dX12_line_136 (by decide) (fun h_21 => ?_) (fun h_21 => ?_)
        · skip
          have zh_21 : ¬ o_10.toInt = 0 := z_ne h_21
          refine lv_aload_n hx hb dX12_line_210 rfl (lv_at hl 0 rfl) ?_
          refine va_get (D := D) (ci := 12) (v := .int o_10) (C := RX12) (T := TX12) (N := 42) hx hb hts iT_X12 hown hK hP 4 rfl rfl 12 (by decide) (hts _ tw_6_65) (fun _ h9 => h9) rfl dX12_line_211 ?_
          refine lv_if_ne (tgt := 222) hx hb dX12_line_214 (by decide) (fun h_22 => ?_) (fun h_22 => ?_)
          · skip
            have zh_22 : ¬ o_10.toInt = 0 := z_ne h_22
            obtain ⟨hP9, hD9⟩ := sub2 hP hD (ws' := [(mo, .inr (12, [.int v0, .ref m1, .ref m2, .ref m3, .ref m4, .ref m5, .int v6, .int o_5, .int o_6, .int o_7, .int o_8, .long o_9, .int o_10, .int o_11, .int v14, .int v15, .ref m16, .ref m17, .ref m18, .ref m19, .ref m20, .ref m21, .ref m22, .ref m23, .int v24, .ref m25, .ref m26, .ref m27, .ref m28, .ref m29, .int v30, .ref m31, .ref m32, .ref m33, .int v34, .int v35, .int v36, .ref m37, .ref m38, .ref m39, .ref m40, .long v41])), (m5, .inl (k 1, 1000, .inl f5)), (m17, .inl (k 0, 30, .inl f17)), (m18, .inl (k 0, 250, .inl f18)), (m19, .inl (k 0, 40, .inl f19)), (m20, .inl (k 0, 120, .inl f20)), (m21, .inl (k 0, 20, .inl f21))]) [4, 5, 6, 0, 1, 2, 3] (by decide +kernel) rfl
            exact W.vret hx hb hr (fun tZ ht hW => ⟨⟨(o_5, o_6, o_7, o_8, o_9, o_10, o_11, f17, f21, f20, f19, f18), rfl, ⟨(show 0 ≤ o_5.toInt ∧ o_5.toInt ≤ 1000 from by omega), hp_f17_0, hp_f17_1, hp_f17_2, hp_f17_3, hp_f17_4, hp_f17_5, hp_f21_0, hp_f21_1, hp_f20_0, hp_f19_0, hp_f19_1, hp_f18_0, hp_f18_1, hp_f18_2, hp_f18_3, (show v7.toInt ≤ o_5.toInt ∧ o_5.toInt ≤ v6.toInt from by omega), hTK⟩, by rw [ht]; exact hP9, va_K.moved hW.alike hK, hD9⟩, hS.F ht⟩) hS.2.2 dX12_line_222
          · skip
            have zh_22 : o_10.toInt = 0 := z_eq h_22
            refine lv_aload_n hx hb dX12_line_217 rfl (lv_at hl 0 rfl) ?_
            refine lv_iconst (v := 1) hx hb dX12_line_218 (by decide) ?_
            obtain ⟨hPc, hDc, hFc⟩ := sub3 hP hD hS hA (ws' := [(mo, .inr (12, [.int v0, .ref m1, .ref m2, .ref m3, .ref m4, .ref m5, .int v6, .int o_5, .int o_6, .int o_7, .int o_8, .long o_9, .int o_10, .int o_11, .int v14, .int v15, .ref m16, .ref m17, .ref m18, .ref m19, .ref m20, .ref m21, .ref m22, .ref m23, .int v24, .ref m25, .ref m26, .ref m27, .ref m28, .ref m29, .int v30, .ref m31, .ref m32, .ref m33, .int v34, .int v35, .int v36, .ref m37, .ref m38, .ref m39, .ref m40, .long v41]))]) [4] (by decide +kernel) rfl
            refine va_callv (va_runV (C := RX12) (As := [.int 1]) (rest := []) ⟨hx, hb, hml, hown, hts⟩ (c_X12_fails l D k mo 1 v0 m1 m2 m3 m4 m5 v6 o_5 o_6 o_7 o_8 o_9 o_10 o_11 v14 v15 m16 m17 m18 m19 m20 m21 m22 m23 v24 m25 m26 m27 m28 m29 v30 m31 m32 m33 v34 v35 v36 m37 m38 m39 m40 v41 H.size (show 0 ≤ v6.toInt ∧ v6.toInt ≤ 1000 from by omega) (show 0 ≤ v24.toInt ∧ v24.toInt ≤ 1023 from by omega)) (cwV 1 hts (gV tw_7_24 tw_7_26 tw_p_45 tw_1_13 tw_7_27) rfl rfl rfl hdV_X12_fails ⟨Nat.le_of_ble_eq_true rfl, Nat.le_of_ble_eq_true rfl⟩) (cz_V hK hPc hDc hN (ci := 12) (q0 := 0) rfl rfl [.int 1]) rfl rfl hl.1 rfl (lv_room (Nat.le_of_ble_eq_true rfl)) dX12_line_219 ⟨Nat.le_of_ble_eq_true rfl, Nat.le_of_ble_eq_true rfl⟩) hS (fun q _ h => hFc q h) hFc (fun uZ tZ H1 locs ht hvm hw hB hz1 hk1 hS => ?_)
            obtain ⟨o_24, o_25⟩ := uZ
            obtain ⟨hP1, hK1, hD1⟩ := hB
            rw [ht] at hP1
            obtain ⟨hP, hD⟩ := va_join (wr := [(m18, .inl (k 0, 250, .inl f18)), (m19, .inl (k 0, 40, .inl f19)), (m20, .inl (k 0, 120, .inl f20)), (m21, .inl (k 0, 20, .inl f21)), (m5, .inl (k 1, 1000, .inl f5)), (m17, .inl (k 0, 30, .inl f17))]) (w1 := [(mo, .inr (12, [.int v0, .ref m1, .ref m2, .ref m3, .ref m4, .ref m5, .int v6, .int o_5, .int o_6, .int o_7, .int o_8, .long o_9, .int o_24, .int o_25, .int v14, .int v15, .ref m16, .ref m17, .ref m18, .ref m19, .ref m20, .ref m21, .ref m22, .ref m23, .int v24, .ref m25, .ref m26, .ref m27, .ref m28, .ref m29, .int v30, .ref m31, .ref m32, .ref m33, .int v34, .int v35, .int v36, .ref m37, .ref m38, .ref m39, .ref m40, .long v41]))]) hP hD [4] [0, 1, 2, 3, 5, 6] rfl rfl (by decide +kernel) (by decide +kernel) hk1 hFc hP1 hD1
            clear hK1 hP1 hD1 hPc hDc hFc
            clear hk1 hz1 ht hvm
            have hP : va_P D vwCl [(m18, .inl (k 0, 250, .inl f18)), (m19, .inl (k 0, 40, .inl f19)), (m20, .inl (k 0, 120, .inl f20)), (m21, .inl (k 0, 20, .inl f21)), (m5, .inl (k 1, 1000, .inl f5)), (m17, .inl (k 0, 30, .inl f17)), (mo, .inr (12, [.int v0, .ref m1, .ref m2, .ref m3, .ref m4, .ref m5, .int v6, .int o_5, .int o_6, .int o_7, .int o_8, .long o_9, .int o_24, .int o_25, .int v14, .int v15, .ref m16, .ref m17, .ref m18, .ref m19, .ref m20, .ref m21, .ref m22, .ref m23, .int v24, .ref m25, .ref m26, .ref m27, .ref m28, .ref m29, .int v30, .ref m31, .ref m32, .ref m33, .int v34, .int v35, .int v36, .ref m37, .ref m38, .ref m39, .ref m40, .long v41]))] H1 := hP
            have hD : va_D A [(m18, .inl (k 0, 250, .inl f18)), (m19, .inl (k 0, 40, .inl f19)), (m20, .inl (k 0, 120, .inl f20)), (m21, .inl (k 0, 20, .inl f21)), (m5, .inl (k 1, 1000, .inl f5)), (m17, .inl (k 0, 30, .inl f17)), (mo, .inr (12, [.int v0, .ref m1, .ref m2, .ref m3, .ref m4, .ref m5, .int v6, .int o_5, .int o_6, .int o_7, .int o_8, .long o_9, .int o_24, .int o_25, .int v14, .int v15, .ref m16, .ref m17, .ref m18, .ref m19, .ref m20, .ref m21, .ref m22, .ref m23, .int v24, .ref m25, .ref m26, .ref m27, .ref m28, .ref m29, .int v30, .ref m31, .ref m32, .ref m33, .int v34, .int v35, .int v36, .ref m37, .ref m38, .ref m39, .ref m40, .long v41]))] := hD
            generalize H1 = H at hP hS ⊢
            have hw_26 : ((o_10.toInt = 0 ∧ o_24.toInt = 1) ∨ (¬ o_10.toInt = 0 ∧ o_24.toInt = o_10.toInt)) := hw
            have hw_27 := hw_26
            clear hw
            obtain ⟨hP9, hD9⟩ := sub2 hP hD (ws' := [(mo, .inr (12, [.int v0, .ref m1, .ref m2, .ref m3, .ref m4, .ref m5, .int v6, .int o_5, .int o_6, .int o_7, .int o_8, .long o_9, .int o_24, .int o_25, .int v14, .int v15, .ref m16, .ref m17, .ref m18, .ref m19, .ref m20, .ref m21, .ref m22, .ref m23, .int v24, .ref m25, .ref m26, .ref m27, .ref m28, .ref m29, .int v30, .ref m31, .ref m32, .ref m33, .int v34, .int v35, .int v36, .ref m37, .ref m38, .ref m39, .ref m40, .long v41])), (m5, .inl (k 1, 1000, .inl f5)), (m17, .inl (k 0, 30, .inl f17)), (m18, .inl (k 0, 250, .inl f18)), (m19, .inl (k 0, 40, .inl f19)), (m20, .inl (k 0, 120, .inl f20)), (m21, .inl (k 0, 20, .inl f21))]) [6, 4, 5, 0, 1, 2, 3] (by decide +kernel) rfl
            exact W.vret hx hb hr (fun tZ ht hW => ⟨⟨(o_5, o_6, o_7, o_8, o_9, o_24, o_25, f17, f21, f20, f19, f18), rfl, ⟨(show 0 ≤ o_5.toInt ∧ o_5.toInt ≤ 1000 from by omega), hp_f17_0, hp_f17_1, hp_f17_2, hp_f17_3, hp_f17_4, hp_f17_5, hp_f21_0, hp_f21_1, hp_f20_0, hp_f19_0, hp_f19_1, hp_f18_0, hp_f18_1, hp_f18_2, hp_f18_3, (show v7.toInt ≤ o_5.toInt ∧ o_5.toInt ≤ v6.toInt from by omega), hTK⟩, by rw [ht]; exact hP9, va_K.moved hW.alike hK, hD9⟩, hS.F ht⟩) hS.2.2 dX12_line_222
        · skip
          have zh_21 : o_10.toInt = 0 := z_eq h_21
          refine lv_aload_n hx hb dX12_line_139 rfl (lv_at hl 0 rfl) ?_
          refine lv_aload_n hx hb dX12_line_140 rfl (lv_at hl 0 rfl) ?_
          refine lv_ldc2 (v := 206754213222) hx hb hown (hts _ tw_7_77) dX12_line_141 ?_
          obtain ⟨hPc, hDc, hFc⟩ := sub3 hP hD hS hA (ws' := [(mo, .inr (12, [.int v0, .ref m1, .ref m2, .ref m3, .ref m4, .ref m5, .int v6, .int o_5, .int o_6, .int o_7, .int o_8, .long o_9, .int o_10, .int o_11, .int v14, .int v15, .ref m16, .ref m17, .ref m18, .ref m19, .ref m20, .ref m21, .ref m22, .ref m23, .int v24, .ref m25, .ref m26, .ref m27, .ref m28, .ref m29, .int v30, .ref m31, .ref m32, .ref m33, .int v34, .int v35, .int v36, .ref m37, .ref m38, .ref m39, .ref m40, .long v41]))]) [4] (by decide +kernel) rfl
          refine va_calli (va_runV (C := RX12) (As := [.long 206754213222]) (rest := [.ref mo]) ⟨hx, hb, hml, hown, hts⟩ (c_X12_is l D k mo 206754213222 v0 m1 m2 m3 m4 m5 v6 o_5 o_6 o_7 o_8 o_9 o_10 o_11 v14 v15 m16 m17 m18 m19 m20 m21 m22 m23 v24 m25 m26 m27 m28 m29 v30 m31 m32 m33 v34 v35 v36 m37 m38 m39 m40 v41 H.size (show 0 ≤ v6.toInt ∧ v6.toInt ≤ 1000 from by omega) (show 0 ≤ v24.toInt ∧ v24.toInt ≤ 1023 from by omega)) (cwV 1 hts (gV tw_7_20 tw_7_22 tw_p_44 tw_1_13 tw_7_23) rfl rfl rfl hdV_X12_is ⟨Nat.le_of_ble_eq_true rfl, Nat.le_of_ble_eq_true rfl⟩) (cz_V hK hPc hDc hN (ci := 12) (q0 := 0) rfl rfl [.long 206754213222]) rfl rfl hl.1 rfl (lv_room (Nat.le_of_ble_eq_true rfl)) dX12_line_144 ⟨Nat.le_of_ble_eq_true rfl, Nat.le_of_ble_eq_true rfl⟩) hS (fun q _ h => hFc q h) hFc (fun r_28 uZ tZ H1 locs ht hvm hw hB hz1 hk1 hS => ?_)
          obtain ⟨hP1, hK1, hD1⟩ := hB
          rw [ht] at hP1
          obtain ⟨hP, hD⟩ := va_join (wr := [(m18, .inl (k 0, 250, .inl f18)), (m19, .inl (k 0, 40, .inl f19)), (m20, .inl (k 0, 120, .inl f20)), (m21, .inl (k 0, 20, .inl f21)), (m5, .inl (k 1, 1000, .inl f5)), (m17, .inl (k 0, 30, .inl f17))]) (w1 := [(mo, .inr (12, [.int v0, .ref m1, .ref m2, .ref m3, .ref m4, .ref m5, .int v6, .int o_5, .int o_6, .int o_7, .int o_8, .long o_9, .int o_10, .int o_11, .int v14, .int v15, .ref m16, .ref m17, .ref m18, .ref m19, .ref m20, .ref m21, .ref m22, .ref m23, .int v24, .ref m25, .ref m26, .ref m27, .ref m28, .ref m29, .int v30, .ref m31, .ref m32, .ref m33, .int v34, .int v35, .int v36, .ref m37, .ref m38, .ref m39, .ref m40, .long v41]))]) hP hD [4] [0, 1, 2, 3, 5, 6] rfl rfl (by decide +kernel) (by decide +kernel) hk1 hFc hP1 hD1
          clear hK1 hP1 hD1 hPc hDc hFc
          clear hk1 hz1 ht hvm
          have hP : va_P D vwCl [(m18, .inl (k 0, 250, .inl f18)), (m19, .inl (k 0, 40, .inl f19)), (m20, .inl (k 0, 120, .inl f20)), (m21, .inl (k 0, 20, .inl f21)), (m5, .inl (k 1, 1000, .inl f5)), (m17, .inl (k 0, 30, .inl f17)), (mo, .inr (12, [.int v0, .ref m1, .ref m2, .ref m3, .ref m4, .ref m5, .int v6, .int o_5, .int o_6, .int o_7, .int o_8, .long o_9, .int o_10, .int o_11, .int v14, .int v15, .ref m16, .ref m17, .ref m18, .ref m19, .ref m20, .ref m21, .ref m22, .ref m23, .int v24, .ref m25, .ref m26, .ref m27, .ref m28, .ref m29, .int v30, .ref m31, .ref m32, .ref m33, .int v34, .int v35, .int v36, .ref m37, .ref m38, .ref m39, .ref m40, .long v41]))] H1 := hP
          have hD : va_D A [(m18, .inl (k 0, 250, .inl f18)), (m19, .inl (k 0, 40, .inl f19)), (m20, .inl (k 0, 120, .inl f20)), (m21, .inl (k 0, 20, .inl f21)), (m5, .inl (k 1, 1000, .inl f5)), (m17, .inl (k 0, 30, .inl f17)), (mo, .inr (12, [.int v0, .ref m1, .ref m2, .ref m3, .ref m4, .ref m5, .int v6, .int o_5, .int o_6, .int o_7, .int o_8, .long o_9, .int o_10, .int o_11, .int v14, .int v15, .ref m16, .ref m17, .ref m18, .ref m19, .ref m20, .ref m21, .ref m22, .ref m23, .int v24, .ref m25, .ref m26, .ref m27, .ref m28, .ref m29, .int v30, .ref m31, .ref m32, .ref m33, .int v34, .int v35, .int v36, .ref m37, .ref m38, .ref m39, .ref m40, .long v41]))] := hD
          generalize H1 = H at hP hS ⊢
          have hw_29 : (0 ≤ r_28.toInt ∧ r_28.toInt ≤ 1) := hw
          have hw_30 := hw_29
          clear hw
          refine lv_iconst (v := 4) hx hb dX12_line_147 (by decide) ?_
          refine lv_iconst (v := 2) hx hb dX12_line_148 (by decide) ?_
          obtain ⟨hPc, hDc, hFc⟩ := sub3 hP hD hS hA (ws' := [(mo, .inr (12, [.int v0, .ref m1, .ref m2, .ref m3, .ref m4, .ref m5, .int v6, .int o_5, .int o_6, .int o_7, .int o_8, .long o_9, .int o_10, .int o_11, .int v14, .int v15, .ref m16, .ref m17, .ref m18, .ref m19, .ref m20, .ref m21, .ref m22, .ref m23, .int v24, .ref m25, .ref m26, .ref m27, .ref m28, .ref m29, .int v30, .ref m31, .ref m32, .ref m33, .int v34, .int v35, .int v36, .ref m37, .ref m38, .ref m39, .ref m40, .long v41])), (m5, .inl (k 1, 1000, .inl f5)), (m17, .inl (k 0, 30, .inl f17))]) [6, 4, 5] (by decide +kernel) rfl
          refine va_calli (va_runV (C := RX12) (As := [.int r_28, .int 4, .int 2]) (rest := []) ⟨hx, hb, hml, hown, hts⟩ (c_X12_isRoom_3 l D k mo r_28 v0 m1 m2 m3 m4 m5 v6 o_5 o_6 o_7 o_8 o_9 o_10 o_11 v14 v15 m16 m17 m18 m19 m20 m21 m22 m23 v24 m25 m26 m27 m28 m29 v30 m31 m32 m33 v34 v35 v36 m37 m38 m39 m40 v41 f5 f17 H.size (show 0 ≤ r_28.toInt ∧ r_28.toInt ≤ 1 from by omega) (show 0 ≤ v6.toInt ∧ v6.toInt ≤ 1000 from by omega) (show 0 ≤ o_5.toInt ∧ o_5.toInt ≤ 1000 from by omega) (show 0 ≤ v24.toInt ∧ v24.toInt ≤ 1023 from by omega) hp_f17_0 hp_f17_1 hp_f17_2 hp_f17_3 hp_f17_4 hp_f17_5 (show o_5.toInt ≤ v6.toInt from by omega)) (cwV 3 hts (gV tw_7_42 tw_7_44 tw_p_49 tw_1_13 tw_7_45) rfl rfl rfl hdV_X12_isRoom ⟨Nat.le_of_ble_eq_true rfl, Nat.le_of_ble_eq_true rfl⟩) (cz_V hK hPc hDc hN (ci := 12) (q0 := 0) rfl rfl [.int r_28, .int 4, .int 2]) rfl rfl hl.1 rfl (lv_room (Nat.le_of_ble_eq_true rfl)) dX12_line_149 ⟨Nat.le_of_ble_eq_true rfl, Nat.le_of_ble_eq_true rfl⟩) hS (fun q _ h => hFc q h) hFc (fun r_31 uZ tZ H1 locs ht hvm hw hB hz1 hk1 hS => ?_)
          obtain ⟨o_32, o_33, o_34, o_35, o_36, o_37, o_38⟩ := uZ
          obtain ⟨hP1, hK1, hD1⟩ := hB
          rw [ht] at hP1
          obtain ⟨hP, hD⟩ := va_join (wr := [(m18, .inl (k 0, 250, .inl f18)), (m19, .inl (k 0, 40, .inl f19)), (m20, .inl (k 0, 120, .inl f20)), (m21, .inl (k 0, 20, .inl f21))]) (w1 := [(mo, .inr (12, [.int v0, .ref m1, .ref m2, .ref m3, .ref m4, .ref m5, .int v6, .int o_32, .int o_33, .int o_34, .int o_35, .long o_36, .int o_37, .int o_38, .int v14, .int v15, .ref m16, .ref m17, .ref m18, .ref m19, .ref m20, .ref m21, .ref m22, .ref m23, .int v24, .ref m25, .ref m26, .ref m27, .ref m28, .ref m29, .int v30, .ref m31, .ref m32, .ref m33, .int v34, .int v35, .int v36, .ref m37, .ref m38, .ref m39, .ref m40, .long v41])), (m5, .inl (k 1, 1000, .inl f5)), (m17, .inl (k 0, 30, .inl f17))]) hP hD [6, 4, 5] [0, 1, 2, 3] rfl rfl (by decide +kernel) (by decide +kernel) hk1 hFc hP1 hD1
          clear hK1 hP1 hD1 hPc hDc hFc
          clear hk1 hz1 ht hvm
          have hP : va_P D vwCl [(m18, .inl (k 0, 250, .inl f18)), (m19, .inl (k 0, 40, .inl f19)), (m20, .inl (k 0, 120, .inl f20)), (m21, .inl (k 0, 20, .inl f21)), (mo, .inr (12, [.int v0, .ref m1, .ref m2, .ref m3, .ref m4, .ref m5, .int v6, .int o_32, .int o_33, .int o_34, .int o_35, .long o_36, .int o_37, .int o_38, .int v14, .int v15, .ref m16, .ref m17, .ref m18, .ref m19, .ref m20, .ref m21, .ref m22, .ref m23, .int v24, .ref m25, .ref m26, .ref m27, .ref m28, .ref m29, .int v30, .ref m31, .ref m32, .ref m33, .int v34, .int v35, .int v36, .ref m37, .ref m38, .ref m39, .ref m40, .long v41])), (m5, .inl (k 1, 1000, .inl f5)), (m17, .inl (k 0, 30, .inl f17))] H1 := hP
          have hD : va_D A [(m18, .inl (k 0, 250, .inl f18)), (m19, .inl (k 0, 40, .inl f19)), (m20, .inl (k 0, 120, .inl f20)), (m21, .inl (k 0, 20, .inl f21)), (mo, .inr (12, [.int v0, .ref m1, .ref m2, .ref m3, .ref m4, .ref m5, .int v6, .int o_32, .int o_33, .int o_34, .int o_35, .long o_36, .int o_37, .int o_38, .int v14, .int v15, .ref m16, .ref m17, .ref m18, .ref m19, .ref m20, .ref m21, .ref m22, .ref m23, .int v24, .ref m25, .ref m26, .ref m27, .ref m28, .ref m29, .int v30, .ref m31, .ref m32, .ref m33, .int v34, .int v35, .int v36, .ref m37, .ref m38, .ref m39, .ref m40, .long v41])), (m5, .inl (k 1, 1000, .inl f5)), (m17, .inl (k 0, 30, .inl f17))] := hD
          generalize H1 = H at hP hS ⊢
          have hw_39 : (0 ≤ r_31.toInt ∧ r_31.toInt ≤ 1) ∧ (0 ≤ o_32.toInt ∧ o_32.toInt ≤ 1000) ∧ (o_5.toInt ≤ o_32.toInt ∧ o_32.toInt ≤ v6.toInt) ∧ (r_31.toInt = 0 ∨ (f17 28).toInt ≤ 1) ∧ (r_31.toInt = 0 ∨ o_37.toInt = 0) := hw
          obtain ⟨hw_40, hw_41, hw_42, hw_43, hw_44⟩ := hw_39
          clear hw
          refine lv_if_eq (tgt := 210) hx hb dX12_line_152 (by decide) (fun h_45 => ?_) (fun h_45 => ?_)
          · skip
            have zh_45 : r_31.toInt = 0 := z_eq h_45
            refine lv_aload_n hx hb dX12_line_210 rfl (lv_at hl 0 rfl) ?_
            refine va_get (D := D) (ci := 12) (v := .int o_37) (C := RX12) (T := TX12) (N := 42) hx hb hts iT_X12 hown hK hP 4 rfl rfl 12 (by decide) (hts _ tw_6_65) (fun _ h9 => h9) rfl dX12_line_211 ?_
            refine lv_if_ne (tgt := 222) hx hb dX12_line_214 (by decide) (fun h_46 => ?_) (fun h_46 => ?_)
            · skip
              have zh_46 : ¬ o_37.toInt = 0 := z_ne h_46
              obtain ⟨hP9, hD9⟩ := sub2 hP hD (ws' := [(mo, .inr (12, [.int v0, .ref m1, .ref m2, .ref m3, .ref m4, .ref m5, .int v6, .int o_32, .int o_33, .int o_34, .int o_35, .long o_36, .int o_37, .int o_38, .int v14, .int v15, .ref m16, .ref m17, .ref m18, .ref m19, .ref m20, .ref m21, .ref m22, .ref m23, .int v24, .ref m25, .ref m26, .ref m27, .ref m28, .ref m29, .int v30, .ref m31, .ref m32, .ref m33, .int v34, .int v35, .int v36, .ref m37, .ref m38, .ref m39, .ref m40, .long v41])), (m5, .inl (k 1, 1000, .inl f5)), (m17, .inl (k 0, 30, .inl f17)), (m18, .inl (k 0, 250, .inl f18)), (m19, .inl (k 0, 40, .inl f19)), (m20, .inl (k 0, 120, .inl f20)), (m21, .inl (k 0, 20, .inl f21))]) [4, 5, 6, 0, 1, 2, 3] (by decide +kernel) rfl
              exact W.vret hx hb hr (fun tZ ht hW => ⟨⟨(o_32, o_33, o_34, o_35, o_36, o_37, o_38, f17, f21, f20, f19, f18), rfl, ⟨(show 0 ≤ o_32.toInt ∧ o_32.toInt ≤ 1000 from by omega), hp_f17_0, hp_f17_1, hp_f17_2, hp_f17_3, hp_f17_4, hp_f17_5, hp_f21_0, hp_f21_1, hp_f20_0, hp_f19_0, hp_f19_1, hp_f18_0, hp_f18_1, hp_f18_2, hp_f18_3, (show v7.toInt ≤ o_32.toInt ∧ o_32.toInt ≤ v6.toInt from by omega), hTK⟩, by rw [ht]; exact hP9, va_K.moved hW.alike hK, hD9⟩, hS.F ht⟩) hS.2.2 dX12_line_222
            · skip
              have zh_46 : o_37.toInt = 0 := z_eq h_46
              refine lv_aload_n hx hb dX12_line_217 rfl (lv_at hl 0 rfl) ?_
              refine lv_iconst (v := 1) hx hb dX12_line_218 (by decide) ?_
              obtain ⟨hPc, hDc, hFc⟩ := sub3 hP hD hS hA (ws' := [(mo, .inr (12, [.int v0, .ref m1, .ref m2, .ref m3, .ref m4, .ref m5, .int v6, .int o_32, .int o_33, .int o_34, .int o_35, .long o_36, .int o_37, .int o_38, .int v14, .int v15, .ref m16, .ref m17, .ref m18, .ref m19, .ref m20, .ref m21, .ref m22, .ref m23, .int v24, .ref m25, .ref m26, .ref m27, .ref m28, .ref m29, .int v30, .ref m31, .ref m32, .ref m33, .int v34, .int v35, .int v36, .ref m37, .ref m38, .ref m39, .ref m40, .long v41]))]) [4] (by decide +kernel) rfl
              refine va_callv (va_runV (C := RX12) (As := [.int 1]) (rest := []) ⟨hx, hb, hml, hown, hts⟩ (c_X12_fails l D k mo 1 v0 m1 m2 m3 m4 m5 v6 o_32 o_33 o_34 o_35 o_36 o_37 o_38 v14 v15 m16 m17 m18 m19 m20 m21 m22 m23 v24 m25 m26 m27 m28 m29 v30 m31 m32 m33 v34 v35 v36 m37 m38 m39 m40 v41 H.size (show 0 ≤ v6.toInt ∧ v6.toInt ≤ 1000 from by omega) (show 0 ≤ v24.toInt ∧ v24.toInt ≤ 1023 from by omega)) (cwV 1 hts (gV tw_7_24 tw_7_26 tw_p_45 tw_1_13 tw_7_27) rfl rfl rfl hdV_X12_fails ⟨Nat.le_of_ble_eq_true rfl, Nat.le_of_ble_eq_true rfl⟩) (cz_V hK hPc hDc hN (ci := 12) (q0 := 0) rfl rfl [.int 1]) rfl rfl hl.1 rfl (lv_room (Nat.le_of_ble_eq_true rfl)) dX12_line_219 ⟨Nat.le_of_ble_eq_true rfl, Nat.le_of_ble_eq_true rfl⟩) hS (fun q _ h => hFc q h) hFc (fun uZ tZ H1 locs ht hvm hw hB hz1 hk1 hS => ?_)
              obtain ⟨o_48, o_49⟩ := uZ
              obtain ⟨hP1, hK1, hD1⟩ := hB
              rw [ht] at hP1
              obtain ⟨hP, hD⟩ := va_join (wr := [(m18, .inl (k 0, 250, .inl f18)), (m19, .inl (k 0, 40, .inl f19)), (m20, .inl (k 0, 120, .inl f20)), (m21, .inl (k 0, 20, .inl f21)), (m5, .inl (k 1, 1000, .inl f5)), (m17, .inl (k 0, 30, .inl f17))]) (w1 := [(mo, .inr (12, [.int v0, .ref m1, .ref m2, .ref m3, .ref m4, .ref m5, .int v6, .int o_32, .int o_33, .int o_34, .int o_35, .long o_36, .int o_48, .int o_49, .int v14, .int v15, .ref m16, .ref m17, .ref m18, .ref m19, .ref m20, .ref m21, .ref m22, .ref m23, .int v24, .ref m25, .ref m26, .ref m27, .ref m28, .ref m29, .int v30, .ref m31, .ref m32, .ref m33, .int v34, .int v35, .int v36, .ref m37, .ref m38, .ref m39, .ref m40, .long v41]))]) hP hD [4] [0, 1, 2, 3, 5, 6] rfl rfl (by decide +kernel) (by decide +kernel) hk1 hFc hP1 hD1
              clear hK1 hP1 hD1 hPc hDc hFc
              clear hk1 hz1 ht hvm
              have hP : va_P D vwCl [(m18, .inl (k 0, 250, .inl f18)), (m19, .inl (k 0, 40, .inl f19)), (m20, .inl (k 0, 120, .inl f20)), (m21, .inl (k 0, 20, .inl f21)), (m5, .inl (k 1, 1000, .inl f5)), (m17, .inl (k 0, 30, .inl f17)), (mo, .inr (12, [.int v0, .ref m1, .ref m2, .ref m3, .ref m4, .ref m5, .int v6, .int o_32, .int o_33, .int o_34, .int o_35, .long o_36, .int o_48, .int o_49, .int v14, .int v15, .ref m16, .ref m17, .ref m18, .ref m19, .ref m20, .ref m21, .ref m22, .ref m23, .int v24, .ref m25, .ref m26, .ref m27, .ref m28, .ref m29, .int v30, .ref m31, .ref m32, .ref m33, .int v34, .int v35, .int v36, .ref m37, .ref m38, .ref m39, .ref m40, .long v41]))] H1 := hP
              have hD : va_D A [(m18, .inl (k 0, 250, .inl f18)), (m19, .inl (k 0, 40, .inl f19)), (m20, .inl (k 0, 120, .inl f20)), (m21, .inl (k 0, 20, .inl f21)), (m5, .inl (k 1, 1000, .inl f5)), (m17, .inl (k 0, 30, .inl f17)), (mo, .inr (12, [.int v0, .ref m1, .ref m2, .ref m3, .ref m4, .ref m5, .int v6, .int o_32, .int o_33, .int o_34, .int o_35, .long o_36, .int o_48, .int o_49, .int v14, .int v15, .ref m16, .ref m17, .ref m18, .ref m19, .ref m20, .ref m21, .ref m22, .ref m23, .int v24, .ref m25, .ref m26, .ref m27, .ref m28, .ref m29, .int v30, .ref m31, .ref m32, .ref m33, .int v34, .int v35, .int v36, .ref m37, .ref m38, .ref m39, .ref m40, .long v41]))] := hD
              generalize H1 = H at hP hS ⊢
              have hw_50 : ((o_37.toInt = 0 ∧ o_48.toInt = 1) ∨ (¬ o_37.toInt = 0 ∧ o_48.toInt = o_37.toInt)) := hw
              have hw_51 := hw_50
              clear hw
              obtain ⟨hP9, hD9⟩ := sub2 hP hD (ws' := [(mo, .inr (12, [.int v0, .ref m1, .ref m2, .ref m3, .ref m4, .ref m5, .int v6, .int o_32, .int o_33, .int o_34, .int o_35, .long o_36, .int o_48, .int o_49, .int v14, .int v15, .ref m16, .ref m17, .ref m18, .ref m19, .ref m20, .ref m21, .ref m22, .ref m23, .int v24, .ref m25, .ref m26, .ref m27, .ref m28, .ref m29, .int v30, .ref m31, .ref m32, .ref m33, .int v34, .int v35, .int v36, .ref m37, .ref m38, .ref m39, .ref m40, .long v41])), (m5, .inl (k 1, 1000, .inl f5)), (m17, .inl (k 0, 30, .inl f17)), (m18, .inl (k 0, 250, .inl f18)), (m19, .inl (k 0, 40, .inl f19)), (m20, .inl (k 0, 120, .inl f20)), (m21, .inl (k 0, 20, .inl f21))]) [6, 4, 5, 0, 1, 2, 3] (by decide +kernel) rfl
              exact W.vret hx hb hr (fun tZ ht hW => ⟨⟨(o_32, o_33, o_34, o_35, o_36, o_48, o_49, f17, f21, f20, f19, f18), rfl, ⟨(show 0 ≤ o_32.toInt ∧ o_32.toInt ≤ 1000 from by omega), hp_f17_0, hp_f17_1, hp_f17_2, hp_f17_3, hp_f17_4, hp_f17_5, hp_f21_0, hp_f21_1, hp_f20_0, hp_f19_0, hp_f19_1, hp_f18_0, hp_f18_1, hp_f18_2, hp_f18_3, (show v7.toInt ≤ o_32.toInt ∧ o_32.toInt ≤ v6.toInt from by omega), hTK⟩, by rw [ht]; exact hP9, va_K.moved hW.alike hK, hD9⟩, hS.F ht⟩) hS.2.2 dX12_line_222
          · skip
            have zh_45 : ¬ r_31.toInt = 0 := z_ne h_45
            refine lv_iconst (v := 2) hx hb dX12_line_155 (by decide) ?_
            refine lv_bipush (v := 8) hx hb dX12_line_156 (by decide) ?_
            refine lv_aload_n hx hb dX12_line_158 rfl (lv_at hl 0 rfl) ?_
            refine lv_iconst (v := 4) hx hb dX12_line_159 (by decide) ?_
            obtain ⟨hPc, hDc, hFc⟩ := sub3 hP hD hS hA (ws' := [(mo, .inr (12, [.int v0, .ref m1, .ref m2, .ref m3, .ref m4, .ref m5, .int v6, .int o_32, .int o_33, .int o_34, .int o_35, .long o_36, .int o_37, .int o_38, .int v14, .int v15, .ref m16, .ref m17, .ref m18, .ref m19, .ref m20, .ref m21, .ref m22, .ref m23, .int v24, .ref m25, .ref m26, .ref m27, .ref m28, .ref m29, .int v30, .ref m31, .ref m32, .ref m33, .int v34, .int v35, .int v36, .ref m37, .ref m38, .ref m39, .ref m40, .long v41])), (m17, .inl (k 0, 30, .inl f17))]) [4, 6] (by decide +kernel) rfl
            refine va_calli (va_runV (C := RX12) (As := [.int 4]) (rest := [.int 8, .int 2]) ⟨hx, hb, hml, hown, hts⟩ (c_X12_hasRead_4 l D k mo v0 m1 m2 m3 m4 m5 v6 o_32 o_33 o_34 o_35 o_36 o_37 o_38 v14 v15 m16 m17 m18 m19 m20 m21 m22 m23 v24 m25 m26 m27 m28 m29 v30 m31 m32 m33 v34 v35 v36 m37 m38 m39 m40 v41 f17 H.size (show 0 ≤ v6.toInt ∧ v6.toInt ≤ 1000 from by omega) (show 0 ≤ v24.toInt ∧ v24.toInt ≤ 1023 from by omega) hp_f17_0 hp_f17_1 hp_f17_2 hp_f17_3 hp_f17_4 hp_f17_5) (cwV 1 hts (gV tw_7_46 tw_7_48 tw_p_50 tw_1_13 tw_7_49) rfl rfl rfl hdV_X12_hasRead ⟨Nat.le_of_ble_eq_true rfl, Nat.le_of_ble_eq_true rfl⟩) (cz_V hK hPc hDc hN (ci := 12) (q0 := 0) rfl rfl [.int 4]) rfl rfl hl.1 rfl (lv_room (Nat.le_of_ble_eq_true rfl)) dX12_line_160 ⟨Nat.le_of_ble_eq_true rfl, Nat.le_of_ble_eq_true rfl⟩) hS (fun q _ h => hFc q h) hFc (fun r_52 uZ tZ H1 locs ht hvm hw hB hz1 hk1 hS => ?_)
            obtain ⟨hP1, hK1, hD1⟩ := hB
            rw [ht] at hP1
            obtain ⟨hP, hD⟩ := va_join (wr := [(m18, .inl (k 0, 250, .inl f18)), (m19, .inl (k 0, 40, .inl f19)), (m20, .inl (k 0, 120, .inl f20)), (m21, .inl (k 0, 20, .inl f21)), (m5, .inl (k 1, 1000, .inl f5))]) (w1 := [(mo, .inr (12, [.int v0, .ref m1, .ref m2, .ref m3, .ref m4, .ref m5, .int v6, .int o_32, .int o_33, .int o_34, .int o_35, .long o_36, .int o_37, .int o_38, .int v14, .int v15, .ref m16, .ref m17, .ref m18, .ref m19, .ref m20, .ref m21, .ref m22, .ref m23, .int v24, .ref m25, .ref m26, .ref m27, .ref m28, .ref m29, .int v30, .ref m31, .ref m32, .ref m33, .int v34, .int v35, .int v36, .ref m37, .ref m38, .ref m39, .ref m40, .long v41])), (m17, .inl (k 0, 30, .inl f17))]) hP hD [4, 6] [0, 1, 2, 3, 5] rfl rfl (by decide +kernel) (by decide +kernel) hk1 hFc hP1 hD1
            clear hK1 hP1 hD1 hPc hDc hFc
            clear hk1 hz1 ht hvm
            have hP : va_P D vwCl [(m18, .inl (k 0, 250, .inl f18)), (m19, .inl (k 0, 40, .inl f19)), (m20, .inl (k 0, 120, .inl f20)), (m21, .inl (k 0, 20, .inl f21)), (m5, .inl (k 1, 1000, .inl f5)), (mo, .inr (12, [.int v0, .ref m1, .ref m2, .ref m3, .ref m4, .ref m5, .int v6, .int o_32, .int o_33, .int o_34, .int o_35, .long o_36, .int o_37, .int o_38, .int v14, .int v15, .ref m16, .ref m17, .ref m18, .ref m19, .ref m20, .ref m21, .ref m22, .ref m23, .int v24, .ref m25, .ref m26, .ref m27, .ref m28, .ref m29, .int v30, .ref m31, .ref m32, .ref m33, .int v34, .int v35, .int v36, .ref m37, .ref m38, .ref m39, .ref m40, .long v41])), (m17, .inl (k 0, 30, .inl f17))] H1 := hP
            have hD : va_D A [(m18, .inl (k 0, 250, .inl f18)), (m19, .inl (k 0, 40, .inl f19)), (m20, .inl (k 0, 120, .inl f20)), (m21, .inl (k 0, 20, .inl f21)), (m5, .inl (k 1, 1000, .inl f5)), (mo, .inr (12, [.int v0, .ref m1, .ref m2, .ref m3, .ref m4, .ref m5, .int v6, .int o_32, .int o_33, .int o_34, .int o_35, .long o_36, .int o_37, .int o_38, .int v14, .int v15, .ref m16, .ref m17, .ref m18, .ref m19, .ref m20, .ref m21, .ref m22, .ref m23, .int v24, .ref m25, .ref m26, .ref m27, .ref m28, .ref m29, .int v30, .ref m31, .ref m32, .ref m33, .int v34, .int v35, .int v36, .ref m37, .ref m38, .ref m39, .ref m40, .long v41])), (m17, .inl (k 0, 30, .inl f17))] := hD
            generalize H1 = H at hP hS ⊢
            have hw_53 : (0 ≤ r_52.toInt ∧ r_52.toInt ≤ 2) ∧ (r_52 = f17 28) := hw
            obtain ⟨hw_54, hw_55⟩ := hw_53
            clear hw
            have zhr_52 : r_52.toInt = (f17 28).toInt := by rw [hw_55]
            refine lv_iadd hx hb dX12_line_163 ?_
            refine lv_topi (fun x_56 ex_56 => ?_)
            have zx_56 : x_56.toInt = 8 + r_52.toInt := by rw [ex_56]; exact z_add rfl rfl (by omega) (by omega)
            refine lv_imul hx hb dX12_line_164 ?_
            refine lv_topi (fun x_57 ex_57 => ?_)
            have zx_57 : x_57.toInt = 2 * x_56.toInt := by rw [ex_57]; exact z_mul rfl rfl (by omega) (by omega)
            refine lv_istore_n (lv' := [(1, .int x_57), (0, .ref mo)]) hx hb dX12_line_165 rfl hl (by decide) rfl (fun ls hl => ?_)
            refine lv_aload_n hx hb dX12_line_166 rfl (lv_at hl 1 rfl) ?_
            refine va_get (D := D) (ci := 12) (v := .ref m21) (C := RX12) (T := TX12) (N := 42) hx hb hts iT_X12 hown hK hP 5 rfl rfl 21 (by decide) (hts _ tw_6_74) (fun _ h9 => h9) rfl dX12_line_167 ?_
            refine lv_iload_n hx hb dX12_line_170 rfl (lv_at hl 0 rfl) ?_
            refine lv_aload_n hx hb dX12_line_171 rfl (lv_at hl 1 rfl) ?_
            obtain ⟨hPc, hDc, hFc⟩ := sub3 hP hD hS hA (ws' := [(mo, .inr (12, [.int v0, .ref m1, .ref m2, .ref m3, .ref m4, .ref m5, .int v6, .int o_32, .int o_33, .int o_34, .int o_35, .long o_36, .int o_37, .int o_38, .int v14, .int v15, .ref m16, .ref m17, .ref m18, .ref m19, .ref m20, .ref m21, .ref m22, .ref m23, .int v24, .ref m25, .ref m26, .ref m27, .ref m28, .ref m29, .int v30, .ref m31, .ref m32, .ref m33, .int v34, .int v35, .int v36, .ref m37, .ref m38, .ref m39, .ref m40, .long v41])), (m5, .inl (k 1, 1000, .inl f5)), (m17, .inl (k 0, 30, .inl f17))]) [5, 4, 6] (by decide +kernel) rfl
            refine va_calli (va_runV (C := RX12) (As := []) (rest := [.int x_57, .ref m21]) ⟨hx, hb, hml, hown, hts⟩ (c_X12_streetAt l D k mo v0 m1 m2 m3 m4 m5 v6 o_32 o_33 o_34 o_35 o_36 o_37 o_38 v14 v15 m16 m17 m18 m19 m20 m21 m22 m23 v24 m25 m26 m27 m28 m29 v30 m31 m32 m33 v34 v35 v36 m37 m38 m39 m40 v41 f5 f17 H.size (show 0 ≤ v6.toInt ∧ v6.toInt ≤ 1000 from by omega) (show 0 ≤ o_32.toInt ∧ o_32.toInt ≤ 1000 from by omega) (show 0 ≤ v24.toInt ∧ v24.toInt ≤ 1023 from by omega) hp_f17_0 hp_f17_1 hp_f17_2 hp_f17_3 hp_f17_4 hp_f17_5 (show o_32.toInt ≤ v6.toInt from by omega)) (cwV 0 hts (gV tw_7_63 tw_7_65 tw_p_53 tw_1_13 tw_7_66) rfl rfl rfl hdV_X12_streetAt ⟨Nat.le_of_ble_eq_true rfl, Nat.le_of_ble_eq_true rfl⟩) (cz_V hK hPc hDc hN (ci := 12) (q0 := 0) rfl rfl []) rfl rfl hl.1 rfl (lv_room (Nat.le_of_ble_eq_true rfl)) dX12_line_172 ⟨Nat.le_of_ble_eq_true rfl, Nat.le_of_ble_eq_true rfl⟩) hS (fun q _ h => hFc q h) hFc (fun r_58 uZ tZ H1 locs ht hvm hw hB hz1 hk1 hS => ?_)
            obtain ⟨o_59, o_60, o_61, o_62, o_63, o_64, o_65⟩ := uZ
            obtain ⟨hP1, hK1, hD1⟩ := hB
            rw [ht] at hP1
            obtain ⟨hP, hD⟩ := va_join (wr := [(m18, .inl (k 0, 250, .inl f18)), (m19, .inl (k 0, 40, .inl f19)), (m20, .inl (k 0, 120, .inl f20)), (m21, .inl (k 0, 20, .inl f21))]) (w1 := [(mo, .inr (12, [.int v0, .ref m1, .ref m2, .ref m3, .ref m4, .ref m5, .int v6, .int o_59, .int o_60, .int o_61, .int o_62, .long o_63, .int o_64, .int o_65, .int v14, .int v15, .ref m16, .ref m17, .ref m18, .ref m19, .ref m20, .ref m21, .ref m22, .ref m23, .int v24, .ref m25, .ref m26, .ref m27, .ref m28, .ref m29, .int v30, .ref m31, .ref m32, .ref m33, .int v34, .int v35, .int v36, .ref m37, .ref m38, .ref m39, .ref m40, .long v41])), (m5, .inl (k 1, 1000, .inl f5)), (m17, .inl (k 0, 30, .inl f17))]) hP hD [5, 4, 6] [0, 1, 2, 3] rfl rfl (by decide +kernel) (by decide +kernel) hk1 hFc hP1 hD1
            clear hK1 hP1 hD1 hPc hDc hFc
            clear hk1 hz1 ht hvm
            have hP : va_P D vwCl [(m18, .inl (k 0, 250, .inl f18)), (m19, .inl (k 0, 40, .inl f19)), (m20, .inl (k 0, 120, .inl f20)), (m21, .inl (k 0, 20, .inl f21)), (mo, .inr (12, [.int v0, .ref m1, .ref m2, .ref m3, .ref m4, .ref m5, .int v6, .int o_59, .int o_60, .int o_61, .int o_62, .long o_63, .int o_64, .int o_65, .int v14, .int v15, .ref m16, .ref m17, .ref m18, .ref m19, .ref m20, .ref m21, .ref m22, .ref m23, .int v24, .ref m25, .ref m26, .ref m27, .ref m28, .ref m29, .int v30, .ref m31, .ref m32, .ref m33, .int v34, .int v35, .int v36, .ref m37, .ref m38, .ref m39, .ref m40, .long v41])), (m5, .inl (k 1, 1000, .inl f5)), (m17, .inl (k 0, 30, .inl f17))] H1 := hP
            have hD : va_D A [(m18, .inl (k 0, 250, .inl f18)), (m19, .inl (k 0, 40, .inl f19)), (m20, .inl (k 0, 120, .inl f20)), (m21, .inl (k 0, 20, .inl f21)), (mo, .inr (12, [.int v0, .ref m1, .ref m2, .ref m3, .ref m4, .ref m5, .int v6, .int o_59, .int o_60, .int o_61, .int o_62, .long o_63, .int o_64, .int o_65, .int v14, .int v15, .ref m16, .ref m17, .ref m18, .ref m19, .ref m20, .ref m21, .ref m22, .ref m23, .int v24, .ref m25, .ref m26, .ref m27, .ref m28, .ref m29, .int v30, .ref m31, .ref m32, .ref m33, .int v34, .int v35, .int v36, .ref m37, .ref m38, .ref m39, .ref m40, .long v41])), (m5, .inl (k 1, 1000, .inl f5)), (m17, .inl (k 0, 30, .inl f17))] := hD
            generalize H1 = H at hP hS ⊢
            have hw_66 : (0 ≤ r_58.toInt ∧ r_58.toInt ≤ 7) ∧ (0 ≤ o_59.toInt ∧ o_59.toInt ≤ 1000) ∧ (o_32.toInt ≤ o_59.toInt ∧ o_59.toInt ≤ v6.toInt) := hw
            obtain ⟨hw_67, hw_68, hw_69⟩ := hw_66
            clear hw
            refine va_iast hx hb hK hP hD hS 3 0 rfl rfl (z_in (by omega) (by omega)) dX12_line_175 (fun H locs hP hD hS => ?_)
            obtain ⟨g_70, eg_70⟩ : ∃ z : Nat → Int32, upd f21 x_57.toNatClampNeg r_58 = z := ⟨_, rfl⟩
            have hP : va_P D vwCl [(m18, .inl (k 0, 250, .inl f18)), (m19, .inl (k 0, 40, .inl f19)), (m20, .inl (k 0, 120, .inl f20)), (m21, .inl (k 0, 20, .inl (upd f21 x_57.toNatClampNeg r_58))), (mo, .inr (12, [.int v0, .ref m1, .ref m2, .ref m3, .ref m4, .ref m5, .int v6, .int o_59, .int o_60, .int o_61, .int o_62, .long o_63, .int o_64, .int o_65, .int v14, .int v15, .ref m16, .ref m17, .ref m18, .ref m19, .ref m20, .ref m21, .ref m22, .ref m23, .int v24, .ref m25, .ref m26, .ref m27, .ref m28, .ref m29, .int v30, .ref m31, .ref m32, .ref m33, .int v34, .int v35, .int v36, .ref m37, .ref m38, .ref m39, .ref m40, .long v41])), (m5, .inl (k 1, 1000, .inl f5)), (m17, .inl (k 0, 30, .inl f17))] H := hP
            have hD : va_D A [(m18, .inl (k 0, 250, .inl f18)), (m19, .inl (k 0, 40, .inl f19)), (m20, .inl (k 0, 120, .inl f20)), (m21, .inl (k 0, 20, .inl (upd f21 x_57.toNatClampNeg r_58))), (mo, .inr (12, [.int v0, .ref m1, .ref m2, .ref m3, .ref m4, .ref m5, .int v6, .int o_59, .int o_60, .int o_61, .int o_62, .long o_63, .int o_64, .int o_65, .int v14, .int v15, .ref m16, .ref m17, .ref m18, .ref m19, .ref m20, .ref m21, .ref m22, .ref m23, .int v24, .ref m25, .ref m26, .ref m27, .ref m28, .ref m29, .int v30, .ref m31, .ref m32, .ref m33, .int v34, .int v35, .int v36, .ref m37, .ref m38, .ref m39, .ref m40, .long v41])), (m5, .inl (k 1, 1000, .inl f5)), (m17, .inl (k 0, 30, .inl f17))] := hD
            rw [eg_70] at hP hD
            have hp_71 : PR 20 2 0 0 7 g_70 := by rw [← eg_70]; exact PR.put hp_f21_0 ⟨by omega, by omega⟩
            have hp_72 : PR 20 2 1 0 999 g_70 := by rw [← eg_70]; exact PR.other hp_f21_1 (z_clm (by omega) (by omega))
            refine lv_aload_n hx hb dX12_line_176 rfl (lv_at hl 1 rfl) ?_
            refine va_get (D := D) (ci := 12) (v := .ref m21) (C := RX12) (T := TX12) (N := 42) hx hb hts iT_X12 hown hK hP 4 rfl rfl 21 (by decide) (hts _ tw_6_74) (fun _ h9 => h9) rfl dX12_line_177 ?_
            refine lv_iload_n hx hb dX12_line_180 rfl (lv_at hl 0 rfl) ?_
            refine lv_iconst (v := 1) hx hb dX12_line_181 (by decide) ?_
            refine lv_iadd hx hb dX12_line_182 ?_
            refine lv_topi (fun x_73 ex_73 => ?_)
            have zx_73 : x_73.toInt = x_57.toInt + 1 := by rw [ex_73]; exact z_add rfl rfl (by omega) (by omega)
            refine lv_aload_n hx hb dX12_line_183 rfl (lv_at hl 1 rfl) ?_
            refine lv_ldc2 (v := 131638) hx hb hown (hts _ tw_7_78) dX12_line_184 ?_
            refine lv_iconst (v := 0) hx hb dX12_line_187 (by decide) ?_
            refine lv_sipush (v := 999) hx hb dX12_line_188 (by decide) ?_
            obtain ⟨hPc, hDc, hFc⟩ := sub3 hP hD hS hA (ws' := [(mo, .inr (12, [.int v0, .ref m1, .ref m2, .ref m3, .ref m4, .ref m5, .int v6, .int o_59, .int o_60, .int o_61, .int o_62, .long o_63, .int o_64, .int o_65, .int v14, .int v15, .ref m16, .ref m17, .ref m18, .ref m19, .ref m20, .ref m21, .ref m22, .ref m23, .int v24, .ref m25, .ref m26, .ref m27, .ref m28, .ref m29, .int v30, .ref m31, .ref m32, .ref m33, .int v34, .int v35, .int v36, .ref m37, .ref m38, .ref m39, .ref m40, .long v41])), (m5, .inl (k 1, 1000, .inl f5))]) [4, 5] (by decide +kernel) rfl
            refine va_calli (va_runV (C := RX12) (As := [.long 131638, .int 0, .int 999]) (rest := [.int x_73, .ref m21]) ⟨hx, hb, hml, hown, hts⟩ (c_X12_number_ l D k mo 131638 0 999 v0 m1 m2 m3 m4 m5 v6 o_59 o_60 o_61 o_62 o_63 o_64 o_65 v14 v15 m16 m17 m18 m19 m20 m21 m22 m23 v24 m25 m26 m27 m28 m29 v30 m31 m32 m33 v34 v35 v36 m37 m38 m39 m40 v41 f5 H.size (show 0 ≤ v6.toInt ∧ v6.toInt ≤ 1000 from by omega) (show 0 ≤ o_59.toInt ∧ o_59.toInt ≤ 1000 from by omega) (show 0 ≤ v24.toInt ∧ v24.toInt ≤ 1023 from by omega) (show o_59.toInt ≤ v6.toInt from by omega)) (cwV 3 hts (gV tw_7_29 tw_7_31 tw_p_46 tw_1_13 tw_7_32) rfl rfl rfl hdV_X12_number_ ⟨Nat.le_of_ble_eq_true rfl, Nat.le_of_ble_eq_true rfl⟩) (cz_V hK hPc hDc hN (ci := 12) (q0 := 0) rfl rfl [.long 131638, .int 0, .int 999]) rfl rfl hl.1 rfl (lv_room (Nat.le_of_ble_eq_true rfl)) dX12_line_191 ⟨Nat.le_of_ble_eq_true rfl, Nat.le_of_ble_eq_true rfl⟩) hS (fun q _ h => hFc q h) hFc (fun r_74 uZ tZ H1 locs ht hvm hw hB hz1 hk1 hS => ?_)
            obtain ⟨o_75, o_76, o_77, o_78, o_79, o_80, o_81⟩ := uZ
            obtain ⟨hP1, hK1, hD1⟩ := hB
            rw [ht] at hP1
            obtain ⟨hP, hD⟩ := va_join (wr := [(m18, .inl (k 0, 250, .inl f18)), (m19, .inl (k 0, 40, .inl f19)), (m20, .inl (k 0, 120, .inl f20)), (m21, .inl (k 0, 20, .inl g_70)), (m17, .inl (k 0, 30, .inl f17))]) (w1 := [(mo, .inr (12, [.int v0, .ref m1, .ref m2, .ref m3, .ref m4, .ref m5, .int v6, .int o_75, .int o_76, .int o_77, .int o_78, .long o_79, .int o_80, .int o_81, .int v14, .int v15, .ref m16, .ref m17, .ref m18, .ref m19, .ref m20, .ref m21, .ref m22, .ref m23, .int v24, .ref m25, .ref m26, .ref m27, .ref m28, .ref m29, .int v30, .ref m31, .ref m32, .ref m33, .int v34, .int v35, .int v36, .ref m37, .ref m38, .ref m39, .ref m40, .long v41])), (m5, .inl (k 1, 1000, .inl f5))]) hP hD [4, 5] [0, 1, 2, 3, 6] rfl rfl (by decide +kernel) (by decide +kernel) hk1 hFc hP1 hD1
            clear hK1 hP1 hD1 hPc hDc hFc
            clear hk1 hz1 ht hvm
            have hP : va_P D vwCl [(m18, .inl (k 0, 250, .inl f18)), (m19, .inl (k 0, 40, .inl f19)), (m20, .inl (k 0, 120, .inl f20)), (m21, .inl (k 0, 20, .inl g_70)), (m17, .inl (k 0, 30, .inl f17)), (mo, .inr (12, [.int v0, .ref m1, .ref m2, .ref m3, .ref m4, .ref m5, .int v6, .int o_75, .int o_76, .int o_77, .int o_78, .long o_79, .int o_80, .int o_81, .int v14, .int v15, .ref m16, .ref m17, .ref m18, .ref m19, .ref m20, .ref m21, .ref m22, .ref m23, .int v24, .ref m25, .ref m26, .ref m27, .ref m28, .ref m29, .int v30, .ref m31, .ref m32, .ref m33, .int v34, .int v35, .int v36, .ref m37, .ref m38, .ref m39, .ref m40, .long v41])), (m5, .inl (k 1, 1000, .inl f5))] H1 := hP
            have hD : va_D A [(m18, .inl (k 0, 250, .inl f18)), (m19, .inl (k 0, 40, .inl f19)), (m20, .inl (k 0, 120, .inl f20)), (m21, .inl (k 0, 20, .inl g_70)), (m17, .inl (k 0, 30, .inl f17)), (mo, .inr (12, [.int v0, .ref m1, .ref m2, .ref m3, .ref m4, .ref m5, .int v6, .int o_75, .int o_76, .int o_77, .int o_78, .long o_79, .int o_80, .int o_81, .int v14, .int v15, .ref m16, .ref m17, .ref m18, .ref m19, .ref m20, .ref m21, .ref m22, .ref m23, .int v24, .ref m25, .ref m26, .ref m27, .ref m28, .ref m29, .int v30, .ref m31, .ref m32, .ref m33, .int v34, .int v35, .int v36, .ref m37, .ref m38, .ref m39, .ref m40, .long v41])), (m5, .inl (k 1, 1000, .inl f5))] := hD
            generalize H1 = H at hP hS ⊢
            have hw_82 : (0 ≤ o_75.toInt ∧ o_75.toInt ≤ 1000) ∧ (o_59.toInt ≤ o_75.toInt ∧ o_75.toInt ≤ v6.toInt) ∧ (r_74.toInt = 0 ∨ (0 ≤ r_74.toInt ∧ r_74.toInt ≤ 999)) := hw
            obtain ⟨hw_83, hw_84, hw_85⟩ := hw_82
            clear hw
            refine va_iast hx hb hK hP hD hS 3 0 rfl rfl (z_in (by omega) (by omega)) dX12_line_194 (fun H locs hP hD hS => ?_)
            obtain ⟨g_86, eg_86⟩ : ∃ z : Nat → Int32, upd g_70 x_73.toNatClampNeg r_74 = z := ⟨_, rfl⟩
            have hP : va_P D vwCl [(m18, .inl (k 0, 250, .inl f18)), (m19, .inl (k 0, 40, .inl f19)), (m20, .inl (k 0, 120, .inl f20)), (m21, .inl (k 0, 20, .inl (upd g_70 x_73.toNatClampNeg r_74))), (m17, .inl (k 0, 30, .inl f17)), (mo, .inr (12, [.int v0, .ref m1, .ref m2, .ref m3, .ref m4, .ref m5, .int v6, .int o_75, .int o_76, .int o_77, .int o_78, .long o_79, .int o_80, .int o_81, .int v14, .int v15, .ref m16, .ref m17, .ref m18, .ref m19, .ref m20, .ref m21, .ref m22, .ref m23, .int v24, .ref m25, .ref m26, .ref m27, .ref m28, .ref m29, .int v30, .ref m31, .ref m32, .ref m33, .int v34, .int v35, .int v36, .ref m37, .ref m38, .ref m39, .ref m40, .long v41])), (m5, .inl (k 1, 1000, .inl f5))] H := hP
            have hD : va_D A [(m18, .inl (k 0, 250, .inl f18)), (m19, .inl (k 0, 40, .inl f19)), (m20, .inl (k 0, 120, .inl f20)), (m21, .inl (k 0, 20, .inl (upd g_70 x_73.toNatClampNeg r_74))), (m17, .inl (k 0, 30, .inl f17)), (mo, .inr (12, [.int v0, .ref m1, .ref m2, .ref m3, .ref m4, .ref m5, .int v6, .int o_75, .int o_76, .int o_77, .int o_78, .long o_79, .int o_80, .int o_81, .int v14, .int v15, .ref m16, .ref m17, .ref m18, .ref m19, .ref m20, .ref m21, .ref m22, .ref m23, .int v24, .ref m25, .ref m26, .ref m27, .ref m28, .ref m29, .int v30, .ref m31, .ref m32, .ref m33, .int v34, .int v35, .int v36, .ref m37, .ref m38, .ref m39, .ref m40, .long v41])), (m5, .inl (k 1, 1000, .inl f5))] := hD
            rw [eg_86] at hP hD
            have hp_87 : PR 20 2 0 0 7 g_86 := by rw [← eg_86]; exact PR.other hp_71 (z_clm (by omega) (by omega))
            have hp_88 : PR 20 2 1 0 999 g_86 := by rw [← eg_86]; exact PR.put hp_72 ⟨by omega, by omega⟩
            refine lv_aload_n hx hb dX12_line_195 rfl (lv_at hl 1 rfl) ?_
            refine lv_iconst (v := 4) hx hb dX12_line_196 (by decide) ?_
            refine lv_aload_n hx hb dX12_line_197 rfl (lv_at hl 1 rfl) ?_
            refine lv_iconst (v := 4) hx hb dX12_line_198 (by decide) ?_
            obtain ⟨hPc, hDc, hFc⟩ := sub3 hP hD hS hA (ws' := [(mo, .inr (12, [.int v0, .ref m1, .ref m2, .ref m3, .ref m4, .ref m5, .int v6, .int o_75, .int o_76, .int o_77, .int o_78, .long o_79, .int o_80, .int o_81, .int v14, .int v15, .ref m16, .ref m17, .ref m18, .ref m19, .ref m20, .ref m21, .ref m22, .ref m23, .int v24, .ref m25, .ref m26, .ref m27, .ref m28, .ref m29, .int v30, .ref m31, .ref m32, .ref m33, .int v34, .int v35, .int v36, .ref m37, .ref m38, .ref m39, .ref m40, .long v41])), (m17, .inl (k 0, 30, .inl f17))]) [5, 4] (by decide +kernel) rfl
            refine va_calli (va_runV (C := RX12) (As := [.int 4]) (rest := [.int 4, .ref mo]) ⟨hx, hb, hml, hown, hts⟩ (c_X12_hasRead_4 l D k mo v0 m1 m2 m3 m4 m5 v6 o_75 o_76 o_77 o_78 o_79 o_80 o_81 v14 v15 m16 m17 m18 m19 m20 m21 m22 m23 v24 m25 m26 m27 m28 m29 v30 m31 m32 m33 v34 v35 v36 m37 m38 m39 m40 v41 f17 H.size (show 0 ≤ v6.toInt ∧ v6.toInt ≤ 1000 from by omega) (show 0 ≤ v24.toInt ∧ v24.toInt ≤ 1023 from by omega) hp_f17_0 hp_f17_1 hp_f17_2 hp_f17_3 hp_f17_4 hp_f17_5) (cwV 1 hts (gV tw_7_46 tw_7_48 tw_p_50 tw_1_13 tw_7_49) rfl rfl rfl hdV_X12_hasRead ⟨Nat.le_of_ble_eq_true rfl, Nat.le_of_ble_eq_true rfl⟩) (cz_V hK hPc hDc hN (ci := 12) (q0 := 0) rfl rfl [.int 4]) rfl rfl hl.1 rfl (lv_room (Nat.le_of_ble_eq_true rfl)) dX12_line_199 ⟨Nat.le_of_ble_eq_true rfl, Nat.le_of_ble_eq_true rfl⟩) hS (fun q _ h => hFc q h) hFc (fun r_89 uZ tZ H1 locs ht hvm hw hB hz1 hk1 hS => ?_)
            obtain ⟨hP1, hK1, hD1⟩ := hB
            rw [ht] at hP1
            obtain ⟨hP, hD⟩ := va_join (wr := [(m18, .inl (k 0, 250, .inl f18)), (m19, .inl (k 0, 40, .inl f19)), (m20, .inl (k 0, 120, .inl f20)), (m21, .inl (k 0, 20, .inl g_86)), (m5, .inl (k 1, 1000, .inl f5))]) (w1 := [(mo, .inr (12, [.int v0, .ref m1, .ref m2, .ref m3, .ref m4, .ref m5, .int v6, .int o_75, .int o_76, .int o_77, .int o_78, .long o_79, .int o_80, .int o_81, .int v14, .int v15, .ref m16, .ref m17, .ref m18, .ref m19, .ref m20, .ref m21, .ref m22, .ref m23, .int v24, .ref m25, .ref m26, .ref m27, .ref m28, .ref m29, .int v30, .ref m31, .ref m32, .ref m33, .int v34, .int v35, .int v36, .ref m37, .ref m38, .ref m39, .ref m40, .long v41])), (m17, .inl (k 0, 30, .inl f17))]) hP hD [5, 4] [0, 1, 2, 3, 6] rfl rfl (by decide +kernel) (by decide +kernel) hk1 hFc hP1 hD1
            clear hK1 hP1 hD1 hPc hDc hFc
            clear hk1 hz1 ht hvm
            have hP : va_P D vwCl [(m18, .inl (k 0, 250, .inl f18)), (m19, .inl (k 0, 40, .inl f19)), (m20, .inl (k 0, 120, .inl f20)), (m21, .inl (k 0, 20, .inl g_86)), (m5, .inl (k 1, 1000, .inl f5)), (mo, .inr (12, [.int v0, .ref m1, .ref m2, .ref m3, .ref m4, .ref m5, .int v6, .int o_75, .int o_76, .int o_77, .int o_78, .long o_79, .int o_80, .int o_81, .int v14, .int v15, .ref m16, .ref m17, .ref m18, .ref m19, .ref m20, .ref m21, .ref m22, .ref m23, .int v24, .ref m25, .ref m26, .ref m27, .ref m28, .ref m29, .int v30, .ref m31, .ref m32, .ref m33, .int v34, .int v35, .int v36, .ref m37, .ref m38, .ref m39, .ref m40, .long v41])), (m17, .inl (k 0, 30, .inl f17))] H1 := hP
            have hD : va_D A [(m18, .inl (k 0, 250, .inl f18)), (m19, .inl (k 0, 40, .inl f19)), (m20, .inl (k 0, 120, .inl f20)), (m21, .inl (k 0, 20, .inl g_86)), (m5, .inl (k 1, 1000, .inl f5)), (mo, .inr (12, [.int v0, .ref m1, .ref m2, .ref m3, .ref m4, .ref m5, .int v6, .int o_75, .int o_76, .int o_77, .int o_78, .long o_79, .int o_80, .int o_81, .int v14, .int v15, .ref m16, .ref m17, .ref m18, .ref m19, .ref m20, .ref m21, .ref m22, .ref m23, .int v24, .ref m25, .ref m26, .ref m27, .ref m28, .ref m29, .int v30, .ref m31, .ref m32, .ref m33, .int v34, .int v35, .int v36, .ref m37, .ref m38, .ref m39, .ref m40, .long v41])), (m17, .inl (k 0, 30, .inl f17))] := hD
            generalize H1 = H at hP hS ⊢
            have hw_90 : (0 ≤ r_89.toInt ∧ r_89.toInt ≤ 2) ∧ (r_89 = f17 28) := hw
            obtain ⟨hw_91, hw_92⟩ := hw_90
            clear hw
            obtain rfl : r_52 = r_89 := hw_55.trans hw_92.symm
            refine lv_iconst (v := 1) hx hb dX12_line_202 (by decide) ?_
            refine lv_iadd hx hb dX12_line_203 ?_
            refine lv_topi (fun x_93 ex_93 => ?_)
            have zx_93 : x_93.toInt = r_52.toInt + 1 := by rw [ex_93]; exact z_add rfl rfl (by omega) (by omega)
            obtain ⟨hPc, hDc, hFc⟩ := sub3 hP hD hS hA (ws' := [(mo, .inr (12, [.int v0, .ref m1, .ref m2, .ref m3, .ref m4, .ref m5, .int v6, .int o_75, .int o_76, .int o_77, .int o_78, .long o_79, .int o_80, .int o_81, .int v14, .int v15, .ref m16, .ref m17, .ref m18, .ref m19, .ref m20, .ref m21, .ref m22, .ref m23, .int v24, .ref m25, .ref m26, .ref m27, .ref m28, .ref m29, .int v30, .ref m31, .ref m32, .ref m33, .int v34, .int v35, .int v36, .ref m37, .ref m38, .ref m39, .ref m40, .long v41])), (m17, .inl (k 0, 30, .inl f17))]) [5, 6] (by decide +kernel) rfl
            refine va_callv (va_runV (C := RX12) (As := [.int 4, .int x_93]) (rest := []) ⟨hx, hb, hml, hown, hts⟩ (c_X12_tells_5 l D k mo x_93 v0 m1 m2 m3 m4 m5 v6 o_75 o_76 o_77 o_78 o_79 o_80 o_81 v14 v15 m16 m17 m18 m19 m20 m21 m22 m23 v24 m25 m26 m27 m28 m29 v30 m31 m32 m33 v34 v35 v36 m37 m38 m39 m40 v41 f17 H.size (show 0 ≤ x_93.toInt ∧ x_93.toInt ≤ 2 from by omega) (show 0 ≤ v6.toInt ∧ v6.toInt ≤ 1000 from by omega) (show 0 ≤ v24.toInt ∧ v24.toInt ≤ 1023 from by omega) hp_f17_0 hp_f17_1 hp_f17_2 hp_f17_3 hp_f17_4 hp_f17_5) (cwV 2 hts (gV tw_6_226 tw_6_228 tw_p_37 tw_1_13 tw_6_229) rfl rfl rfl hdV_X12_tells ⟨Nat.le_of_ble_eq_true rfl, Nat.le_of_ble_eq_true rfl⟩) (cz_V hK hPc hDc hN (ci := 12) (q0 := 0) rfl rfl [.int 4, .int x_93]) rfl rfl hl.1 rfl (lv_room (Nat.le_of_ble_eq_true rfl)) dX12_line_204 ⟨Nat.le_of_ble_eq_true rfl, Nat.le_of_ble_eq_true rfl⟩) hS (fun q _ h => hFc q h) hFc (fun uZ tZ H1 locs ht hvm hw hB hz1 hk1 hS => ?_)
            obtain ⟨o_95, rfl⟩ : ∃ z, z = uZ := ⟨_, rfl⟩
            obtain ⟨hP1, hK1, hD1⟩ := hB
            rw [ht] at hP1
            obtain ⟨hP, hD⟩ := va_join (wr := [(m18, .inl (k 0, 250, .inl f18)), (m19, .inl (k 0, 40, .inl f19)), (m20, .inl (k 0, 120, .inl f20)), (m21, .inl (k 0, 20, .inl g_86)), (m5, .inl (k 1, 1000, .inl f5))]) (w1 := [(mo, .inr (12, [.int v0, .ref m1, .ref m2, .ref m3, .ref m4, .ref m5, .int v6, .int o_75, .int o_76, .int o_77, .int o_78, .long o_79, .int o_80, .int o_81, .int v14, .int v15, .ref m16, .ref m17, .ref m18, .ref m19, .ref m20, .ref m21, .ref m22, .ref m23, .int v24, .ref m25, .ref m26, .ref m27, .ref m28, .ref m29, .int v30, .ref m31, .ref m32, .ref m33, .int v34, .int v35, .int v36, .ref m37, .ref m38, .ref m39, .ref m40, .long v41])), (m17, .inl (k 0, 30, .inl o_95))]) hP hD [5, 6] [0, 1, 2, 3, 4] rfl rfl (by decide +kernel) (by decide +kernel) hk1 hFc hP1 hD1
            clear hK1 hP1 hD1 hPc hDc hFc
            clear hk1 hz1 ht hvm
            have hP : va_P D vwCl [(m18, .inl (k 0, 250, .inl f18)), (m19, .inl (k 0, 40, .inl f19)), (m20, .inl (k 0, 120, .inl f20)), (m21, .inl (k 0, 20, .inl g_86)), (m5, .inl (k 1, 1000, .inl f5)), (mo, .inr (12, [.int v0, .ref m1, .ref m2, .ref m3, .ref m4, .ref m5, .int v6, .int o_75, .int o_76, .int o_77, .int o_78, .long o_79, .int o_80, .int o_81, .int v14, .int v15, .ref m16, .ref m17, .ref m18, .ref m19, .ref m20, .ref m21, .ref m22, .ref m23, .int v24, .ref m25, .ref m26, .ref m27, .ref m28, .ref m29, .int v30, .ref m31, .ref m32, .ref m33, .int v34, .int v35, .int v36, .ref m37, .ref m38, .ref m39, .ref m40, .long v41])), (m17, .inl (k 0, 30, .inl o_95))] H1 := hP
            have hD : va_D A [(m18, .inl (k 0, 250, .inl f18)), (m19, .inl (k 0, 40, .inl f19)), (m20, .inl (k 0, 120, .inl f20)), (m21, .inl (k 0, 20, .inl g_86)), (m5, .inl (k 1, 1000, .inl f5)), (mo, .inr (12, [.int v0, .ref m1, .ref m2, .ref m3, .ref m4, .ref m5, .int v6, .int o_75, .int o_76, .int o_77, .int o_78, .long o_79, .int o_80, .int o_81, .int v14, .int v15, .ref m16, .ref m17, .ref m18, .ref m19, .ref m20, .ref m21, .ref m22, .ref m23, .int v24, .ref m25, .ref m26, .ref m27, .ref m28, .ref m29, .int v30, .ref m31, .ref m32, .ref m33, .int v34, .int v35, .int v36, .ref m37, .ref m38, .ref m39, .ref m40, .long v41])), (m17, .inl (k 0, 30, .inl o_95))] := hD
            generalize H1 = H at hP hS ⊢
            have hw_96 : (PR 30 6 0 0 8 o_95) ∧ (PR 30 6 1 0 10 o_95) ∧ (PR 30 6 2 0 4 o_95) ∧ (PR 30 6 3 0 6 o_95) ∧ (PR 30 6 4 0 2 o_95) ∧ (PR 30 6 5 0 40 o_95) ∧ (o_95 = upd f17 28 x_93) := hw
            obtain ⟨hw_97, hw_98, hw_99, hw_100, hw_101, hw_102, hw_103⟩ := hw_96
            clear hw
            have tk_104 : TK o_95 f18 := by rw [hw_103]; exact TK.other hTK (by decide)
            refine lv_goto (tgt := 222) hx hb dX12_line_207 (by decide) ?_
            obtain ⟨hP9, hD9⟩ := sub2 hP hD (ws' := [(mo, .inr (12, [.int v0, .ref m1, .ref m2, .ref m3, .ref m4, .ref m5, .int v6, .int o_75, .int o_76, .int o_77, .int o_78, .long o_79, .int o_80, .int o_81, .int v14, .int v15, .ref m16, .ref m17, .ref m18, .ref m19, .ref m20, .ref m21, .ref m22, .ref m23, .int v24, .ref m25, .ref m26, .ref m27, .ref m28, .ref m29, .int v30, .ref m31, .ref m32, .ref m33, .int v34, .int v35, .int v36, .ref m37, .ref m38, .ref m39, .ref m40, .long v41])), (m5, .inl (k 1, 1000, .inl f5)), (m17, .inl (k 0, 30, .inl o_95)), (m18, .inl (k 0, 250, .inl f18)), (m19, .inl (k 0, 40, .inl f19)), (m20, .inl (k 0, 120, .inl f20)), (m21, .inl (k 0, 20, .inl g_86))]) [5, 4, 6, 0, 1, 2, 3] (by decide +kernel) rfl
            exact W.vret hx hb hr (fun tZ ht hW => ⟨⟨(o_75, o_76, o_77, o_78, o_79, o_80, o_81, o_95, g_86, f20, f19, f18), rfl, ⟨(show 0 ≤ o_75.toInt ∧ o_75.toInt ≤ 1000 from by omega), hw_97, hw_98, hw_99, hw_100, hw_101, hw_102, hp_87, hp_88, hp_f20_0, hp_f19_0, hp_f19_1, hp_f18_0, hp_f18_1, hp_f18_2, hp_f18_3, (show v7.toInt ≤ o_75.toInt ∧ o_75.toInt ≤ v6.toInt from by omega), tk_104⟩, by rw [ht]; exact hP9, va_K.moved hW.alike hK, hD9⟩, hS.F ht⟩) hS.2.2 dX12_line_222
      · skip
        have zh_20 : o_10.toInt = 0 := z_eq h_20
        refine lv_aload_n hx hb dX12_line_108 rfl (lv_at hl 0 rfl) ?_
        refine lv_aload_n hx hb dX12_line_109 rfl (lv_at hl 0 rfl) ?_
        refine lv_ldc2 (v := 4562600) hx hb hown (hts _ tw_7_69) dX12_line_110 ?_
        obtain ⟨hPc, hDc, hFc⟩ := sub3 hP hD hS hA (ws' := [(mo, .inr (12, [.int v0, .ref m1, .ref m2, .ref m3, .ref m4, .ref m5, .int v6, .int o_5, .int o_6, .int o_7, .int o_8, .long o_9, .int o_10, .int o_11, .int v14, .int v15, .ref m16, .ref m17, .ref m18, .ref m19, .ref m20, .ref m21, .ref m22, .ref m23, .int v24, .ref m25, .ref m26, .ref m27, .ref m28, .ref m29, .int v30, .ref m31, .ref m32, .ref m33, .int v34, .int v35, .int v36, .ref m37, .ref m38, .ref m39, .ref m40, .long v41]))]) [4] (by decide +kernel) rfl
        refine va_calli (va_runV (C := RX12) (As := [.long 4562600]) (rest := [.ref mo]) ⟨hx, hb, hml, hown, hts⟩ (c_X12_is l D k mo 4562600 v0 m1 m2 m3 m4 m5 v6 o_5 o_6 o_7 o_8 o_9 o_10 o_11 v14 v15 m16 m17 m18 m19 m20 m21 m22 m23 v24 m25 m26 m27 m28 m29 v30 m31 m32 m33 v34 v35 v36 m37 m38 m39 m40 v41 H.size (show 0 ≤ v6.toInt ∧ v6.toInt ≤ 1000 from by omega) (show 0 ≤ v24.toInt ∧ v24.toInt ≤ 1023 from by omega)) (cwV 1 hts (gV tw_7_20 tw_7_22 tw_p_44 tw_1_13 tw_7_23) rfl rfl rfl hdV_X12_is ⟨Nat.le_of_ble_eq_true rfl, Nat.le_of_ble_eq_true rfl⟩) (cz_V hK hPc hDc hN (ci := 12) (q0 := 0) rfl rfl [.long 4562600]) rfl rfl hl.1 rfl (lv_room (Nat.le_of_ble_eq_true rfl)) dX12_line_113 ⟨Nat.le_of_ble_eq_true rfl, Nat.le_of_ble_eq_true rfl⟩) hS (fun q _ h => hFc q h) hFc (fun r_105 uZ tZ H1 locs ht hvm hw hB hz1 hk1 hS => ?_)
        obtain ⟨hP1, hK1, hD1⟩ := hB
        rw [ht] at hP1
        obtain ⟨hP, hD⟩ := va_join (wr := [(m18, .inl (k 0, 250, .inl f18)), (m19, .inl (k 0, 40, .inl f19)), (m20, .inl (k 0, 120, .inl f20)), (m21, .inl (k 0, 20, .inl f21)), (m5, .inl (k 1, 1000, .inl f5)), (m17, .inl (k 0, 30, .inl f17))]) (w1 := [(mo, .inr (12, [.int v0, .ref m1, .ref m2, .ref m3, .ref m4, .ref m5, .int v6, .int o_5, .int o_6, .int o_7, .int o_8, .long o_9, .int o_10, .int o_11, .int v14, .int v15, .ref m16, .ref m17, .ref m18, .ref m19, .ref m20, .ref m21, .ref m22, .ref m23, .int v24, .ref m25, .ref m26, .ref m27, .ref m28, .ref m29, .int v30, .ref m31, .ref m32, .ref m33, .int v34, .int v35, .int v36, .ref m37, .ref m38, .ref m39, .ref m40, .long v41]))]) hP hD [4] [0, 1, 2, 3, 5, 6] rfl rfl (by decide +kernel) (by decide +kernel) hk1 hFc hP1 hD1
        clear hK1 hP1 hD1 hPc hDc hFc
        clear hk1 hz1 ht hvm
        have hP : va_P D vwCl [(m18, .inl (k 0, 250, .inl f18)), (m19, .inl (k 0, 40, .inl f19)), (m20, .inl (k 0, 120, .inl f20)), (m21, .inl (k 0, 20, .inl f21)), (m5, .inl (k 1, 1000, .inl f5)), (m17, .inl (k 0, 30, .inl f17)), (mo, .inr (12, [.int v0, .ref m1, .ref m2, .ref m3, .ref m4, .ref m5, .int v6, .int o_5, .int o_6, .int o_7, .int o_8, .long o_9, .int o_10, .int o_11, .int v14, .int v15, .ref m16, .ref m17, .ref m18, .ref m19, .ref m20, .ref m21, .ref m22, .ref m23, .int v24, .ref m25, .ref m26, .ref m27, .ref m28, .ref m29, .int v30, .ref m31, .ref m32, .ref m33, .int v34, .int v35, .int v36, .ref m37, .ref m38, .ref m39, .ref m40, .long v41]))] H1 := hP
        have hD : va_D A [(m18, .inl (k 0, 250, .inl f18)), (m19, .inl (k 0, 40, .inl f19)), (m20, .inl (k 0, 120, .inl f20)), (m21, .inl (k 0, 20, .inl f21)), (m5, .inl (k 1, 1000, .inl f5)), (m17, .inl (k 0, 30, .inl f17)), (mo, .inr (12, [.int v0, .ref m1, .ref m2, .ref m3, .ref m4, .ref m5, .int v6, .int o_5, .int o_6, .int o_7, .int o_8, .long o_9, .int o_10, .int o_11, .int v14, .int v15, .ref m16, .ref m17, .ref m18, .ref m19, .ref m20, .ref m21, .ref m22, .ref m23, .int v24, .ref m25, .ref m26, .ref m27, .ref m28, .ref m29, .int v30, .ref m31, .ref m32, .ref m33, .int v34, .int v35, .int v36, .ref m37, .ref m38, .ref m39, .ref m40, .long v41]))] := hD
        generalize H1 = H at hP hS ⊢
        have hw_106 : (0 ≤ r_105.toInt ∧ r_105.toInt ≤ 1) := hw
        have hw_107 := hw_106
        clear hw
        refine lv_iconst (v := 3) hx hb dX12_line_116 (by decide) ?_
        refine lv_bipush (v := 6) hx hb dX12_line_117 (by decide) ?_
        obtain ⟨hPc, hDc, hFc⟩ := sub3 hP hD hS hA (ws' := [(mo, .inr (12, [.int v0, .ref m1, .ref m2, .ref m3, .ref m4, .ref m5, .int v6, .int o_5, .int o_6, .int o_7, .int o_8, .long o_9, .int o_10, .int o_11, .int v14, .int v15, .ref m16, .ref m17, .ref m18, .ref m19, .ref m20, .ref m21, .ref m22, .ref m23, .int v24, .ref m25, .ref m26, .ref m27, .ref m28, .ref m29, .int v30, .ref m31, .ref m32, .ref m33, .int v34, .int v35, .int v36, .ref m37, .ref m38, .ref m39, .ref m40, .long v41])), (m5, .inl (k 1, 1000, .inl f5)), (m17, .inl (k 0, 30, .inl f17))]) [6, 4, 5] (by decide +kernel) rfl
        refine va_calli (va_runV (C := RX12) (As := [.int r_105, .int 3, .int 6]) (rest := []) ⟨hx, hb, hml, hown, hts⟩ (c_X12_isRoom_2 l D k mo r_105 v0 m1 m2 m3 m4 m5 v6 o_5 o_6 o_7 o_8 o_9 o_10 o_11 v14 v15 m16 m17 m18 m19 m20 m21 m22 m23 v24 m25 m26 m27 m28 m29 v30 m31 m32 m33 v34 v35 v36 m37 m38 m39 m40 v41 f5 f17 H.size (show 0 ≤ r_105.toInt ∧ r_105.toInt ≤ 1 from by omega) (show 0 ≤ v6.toInt ∧ v6.toInt ≤ 1000 from by omega) (show 0 ≤ o_5.toInt ∧ o_5.toInt ≤ 1000 from by omega) (show 0 ≤ v24.toInt ∧ v24.toInt ≤ 1023 from by omega) hp_f17_0 hp_f17_1 hp_f17_2 hp_f17_3 hp_f17_4 hp_f17_5 (show o_5.toInt ≤ v6.toInt from by omega)) (cwV 3 hts (gV tw_7_42 tw_7_44 tw_p_49 tw_1_13 tw_7_45) rfl rfl rfl hdV_X12_isRoom ⟨Nat.le_of_ble_eq_true rfl, Nat.le_of_ble_eq_true rfl⟩) (cz_V hK hPc hDc hN (ci := 12) (q0 := 0) rfl rfl [.int r_105, .int 3, .int 6]) rfl rfl hl.1 rfl (lv_room (Nat.le_of_ble_eq_true rfl)) dX12_line_119 ⟨Nat.le_of_ble_eq_true rfl, Nat.le_of_ble_eq_true rfl⟩) hS (fun q _ h => hFc q h) hFc (fun r_108 uZ tZ H1 locs ht hvm hw hB hz1 hk1 hS => ?_)
        obtain ⟨o_109, o_110, o_111, o_112, o_113, o_114, o_115⟩ := uZ
        obtain ⟨hP1, hK1, hD1⟩ := hB
        rw [ht] at hP1
        obtain ⟨hP, hD⟩ := va_join (wr := [(m18, .inl (k 0, 250, .inl f18)), (m19, .inl (k 0, 40, .inl f19)), (m20, .inl (k 0, 120, .inl f20)), (m21, .inl (k 0, 20, .inl f21))]) (w1 := [(mo, .inr (12, [.int v0, .ref m1, .ref m2, .ref m3, .ref m4, .ref m5, .int v6, .int o_109, .int o_110, .int o_111, .int o_112, .long o_113, .int o_114, .int o_115, .int v14, .int v15, .ref m16, .ref m17, .ref m18, .ref m19, .ref m20, .ref m21, .ref m22, .ref m23, .int v24, .ref m25, .ref m26, .ref m27, .ref m28, .ref m29, .int v30, .ref m31, .ref m32, .ref m33, .int v34, .int v35, .int v36, .ref m37, .ref m38, .ref m39, .ref m40, .long v41])), (m5, .inl (k 1, 1000, .inl f5)), (m17, .inl (k 0, 30, .inl f17))]) hP hD [6, 4, 5] [0, 1, 2, 3] rfl rfl (by decide +kernel) (by decide +kernel) hk1 hFc hP1 hD1
        clear hK1 hP1 hD1 hPc hDc hFc
        clear hk1 hz1 ht hvm
        have hP : va_P D vwCl [(m18, .inl (k 0, 250, .inl f18)), (m19, .inl (k 0, 40, .inl f19)), (m20, .inl (k 0, 120, .inl f20)), (m21, .inl (k 0, 20, .inl f21)), (mo, .inr (12, [.int v0, .ref m1, .ref m2, .ref m3, .ref m4, .ref m5, .int v6, .int o_109, .int o_110, .int o_111, .int o_112, .long o_113, .int o_114, .int o_115, .int v14, .int v15, .ref m16, .ref m17, .ref m18, .ref m19, .ref m20, .ref m21, .ref m22, .ref m23, .int v24, .ref m25, .ref m26, .ref m27, .ref m28, .ref m29, .int v30, .ref m31, .ref m32, .ref m33, .int v34, .int v35, .int v36, .ref m37, .ref m38, .ref m39, .ref m40, .long v41])), (m5, .inl (k 1, 1000, .inl f5)), (m17, .inl (k 0, 30, .inl f17))] H1 := hP
        have hD : va_D A [(m18, .inl (k 0, 250, .inl f18)), (m19, .inl (k 0, 40, .inl f19)), (m20, .inl (k 0, 120, .inl f20)), (m21, .inl (k 0, 20, .inl f21)), (mo, .inr (12, [.int v0, .ref m1, .ref m2, .ref m3, .ref m4, .ref m5, .int v6, .int o_109, .int o_110, .int o_111, .int o_112, .long o_113, .int o_114, .int o_115, .int v14, .int v15, .ref m16, .ref m17, .ref m18, .ref m19, .ref m20, .ref m21, .ref m22, .ref m23, .int v24, .ref m25, .ref m26, .ref m27, .ref m28, .ref m29, .int v30, .ref m31, .ref m32, .ref m33, .int v34, .int v35, .int v36, .ref m37, .ref m38, .ref m39, .ref m40, .long v41])), (m5, .inl (k 1, 1000, .inl f5)), (m17, .inl (k 0, 30, .inl f17))] := hD
        generalize H1 = H at hP hS ⊢
        have hw_116 : (0 ≤ r_108.toInt ∧ r_108.toInt ≤ 1) ∧ (0 ≤ o_109.toInt ∧ o_109.toInt ≤ 1000) ∧ (o_5.toInt ≤ o_109.toInt ∧ o_109.toInt ≤ v6.toInt) ∧ (r_108.toInt = 0 ∨ (f17 27).toInt ≤ 5) ∧ (r_108.toInt = 0 ∨ o_114.toInt = 0) := hw
        obtain ⟨hw_117, hw_118, hw_119, hw_120, hw_121⟩ := hw_116
        clear hw
        refine lv_if_eq (tgt := 132) hx hb dX12_line_122 (by decide) (fun h_122 => ?_) (fun h_122 => ?_)
        · skip
          have zh_122 : r_108.toInt = 0 := z_eq h_122
          refine lv_aload_n hx hb dX12_line_132 rfl (lv_at hl 0 rfl) ?_
          refine va_get (D := D) (ci := 12) (v := .int o_114) (C := RX12) (T := TX12) (N := 42) hx hb hts iT_X12 hown hK hP 4 rfl rfl 12 (by decide) (hts _ tw_6_65) (fun _ h9 => h9) rfl dX12_line_133 ?_
          refine lv_if_ne (tgt := 210) hx hb dX12_line_136 (by decide) (fun h_123 => ?_) (fun h_123 => ?_)
          · skip
            have zh_123 : ¬ o_114.toInt = 0 := z_ne h_123
            refine lv_aload_n hx hb dX12_line_210 rfl (lv_at hl 0 rfl) ?_
            refine va_get (D := D) (ci := 12) (v := .int o_114) (C := RX12) (T := TX12) (N := 42) hx hb hts iT_X12 hown hK hP 4 rfl rfl 12 (by decide) (hts _ tw_6_65) (fun _ h9 => h9) rfl dX12_line_211 ?_
            refine lv_if_ne (tgt := 222) hx hb dX12_line_214 (by decide) (fun h_124 => ?_) (fun h_124 => ?_)
            · skip
              have zh_124 : ¬ o_114.toInt = 0 := z_ne h_124
              obtain ⟨hP9, hD9⟩ := sub2 hP hD (ws' := [(mo, .inr (12, [.int v0, .ref m1, .ref m2, .ref m3, .ref m4, .ref m5, .int v6, .int o_109, .int o_110, .int o_111, .int o_112, .long o_113, .int o_114, .int o_115, .int v14, .int v15, .ref m16, .ref m17, .ref m18, .ref m19, .ref m20, .ref m21, .ref m22, .ref m23, .int v24, .ref m25, .ref m26, .ref m27, .ref m28, .ref m29, .int v30, .ref m31, .ref m32, .ref m33, .int v34, .int v35, .int v36, .ref m37, .ref m38, .ref m39, .ref m40, .long v41])), (m5, .inl (k 1, 1000, .inl f5)), (m17, .inl (k 0, 30, .inl f17)), (m18, .inl (k 0, 250, .inl f18)), (m19, .inl (k 0, 40, .inl f19)), (m20, .inl (k 0, 120, .inl f20)), (m21, .inl (k 0, 20, .inl f21))]) [4, 5, 6, 0, 1, 2, 3] (by decide +kernel) rfl
              exact W.vret hx hb hr (fun tZ ht hW => ⟨⟨(o_109, o_110, o_111, o_112, o_113, o_114, o_115, f17, f21, f20, f19, f18), rfl, ⟨(show 0 ≤ o_109.toInt ∧ o_109.toInt ≤ 1000 from by omega), hp_f17_0, hp_f17_1, hp_f17_2, hp_f17_3, hp_f17_4, hp_f17_5, hp_f21_0, hp_f21_1, hp_f20_0, hp_f19_0, hp_f19_1, hp_f18_0, hp_f18_1, hp_f18_2, hp_f18_3, (show v7.toInt ≤ o_109.toInt ∧ o_109.toInt ≤ v6.toInt from by omega), hTK⟩, by rw [ht]; exact hP9, va_K.moved hW.alike hK, hD9⟩, hS.F ht⟩) hS.2.2 dX12_line_222
            · skip
              have zh_124 : o_114.toInt = 0 := z_eq h_124
              refine lv_aload_n hx hb dX12_line_217 rfl (lv_at hl 0 rfl) ?_
              refine lv_iconst (v := 1) hx hb dX12_line_218 (by decide) ?_
              obtain ⟨hPc, hDc, hFc⟩ := sub3 hP hD hS hA (ws' := [(mo, .inr (12, [.int v0, .ref m1, .ref m2, .ref m3, .ref m4, .ref m5, .int v6, .int o_109, .int o_110, .int o_111, .int o_112, .long o_113, .int o_114, .int o_115, .int v14, .int v15, .ref m16, .ref m17, .ref m18, .ref m19, .ref m20, .ref m21, .ref m22, .ref m23, .int v24, .ref m25, .ref m26, .ref m27, .ref m28, .ref m29, .int v30, .ref m31, .ref m32, .ref m33, .int v34, .int v35, .int v36, .ref m37, .ref m38, .ref m39, .ref m40, .long v41]))]) [4] (by decide +kernel) rfl
              refine va_callv (va_runV (C := RX12) (As := [.int 1]) (rest := []) ⟨hx, hb, hml, hown, hts⟩ (c_X12_fails l D k mo 1 v0 m1 m2 m3 m4 m5 v6 o_109 o_110 o_111 o_112 o_113 o_114 o_115 v14 v15 m16 m17 m18 m19 m20 m21 m22 m23 v24 m25 m26 m27 m28 m29 v30 m31 m32 m33 v34 v35 v36 m37 m38 m39 m40 v41 H.size (show 0 ≤ v6.toInt ∧ v6.toInt ≤ 1000 from by omega) (show 0 ≤ v24.toInt ∧ v24.toInt ≤ 1023 from by omega)) (cwV 1 hts (gV tw_7_24 tw_7_26 tw_p_45 tw_1_13 tw_7_27) rfl rfl rfl hdV_X12_fails ⟨Nat.le_of_ble_eq_true rfl, Nat.le_of_ble_eq_true rfl⟩) (cz_V hK hPc hDc hN (ci := 12) (q0 := 0) rfl rfl [.int 1]) rfl rfl hl.1 rfl (lv_room (Nat.le_of_ble_eq_true rfl)) dX12_line_219 ⟨Nat.le_of_ble_eq_true rfl, Nat.le_of_ble_eq_true rfl⟩) hS (fun q _ h => hFc q h) hFc (fun uZ tZ H1 locs ht hvm hw hB hz1 hk1 hS => ?_)
              obtain ⟨o_126, o_127⟩ := uZ
              obtain ⟨hP1, hK1, hD1⟩ := hB
              rw [ht] at hP1
              obtain ⟨hP, hD⟩ := va_join (wr := [(m18, .inl (k 0, 250, .inl f18)), (m19, .inl (k 0, 40, .inl f19)), (m20, .inl (k 0, 120, .inl f20)), (m21, .inl (k 0, 20, .inl f21)), (m5, .inl (k 1, 1000, .inl f5)), (m17, .inl (k 0, 30, .inl f17))]) (w1 := [(mo, .inr (12, [.int v0, .ref m1, .ref m2, .ref m3, .ref m4, .ref m5, .int v6, .int o_109, .int o_110, .int o_111, .int o_112, .long o_113, .int o_126, .int o_127, .int v14, .int v15, .ref m16, .ref m17, .ref m18, .ref m19, .ref m20, .ref m21, .ref m22, .ref m23, .int v24, .ref m25, .ref m26, .ref m27, .ref m28, .ref m29, .int v30, .ref m31, .ref m32, .ref m33, .int v34, .int v35, .int v36, .ref m37, .ref m38, .ref m39, .ref m40, .long v41]))]) hP hD [4] [0, 1, 2, 3, 5, 6] rfl rfl (by decide +kernel) (by decide +kernel) hk1 hFc hP1 hD1
              clear hK1 hP1 hD1 hPc hDc hFc
              clear hk1 hz1 ht hvm
              have hP : va_P D vwCl [(m18, .inl (k 0, 250, .inl f18)), (m19, .inl (k 0, 40, .inl f19)), (m20, .inl (k 0, 120, .inl f20)), (m21, .inl (k 0, 20, .inl f21)), (m5, .inl (k 1, 1000, .inl f5)), (m17, .inl (k 0, 30, .inl f17)), (mo, .inr (12, [.int v0, .ref m1, .ref m2, .ref m3, .ref m4, .ref m5, .int v6, .int o_109, .int o_110, .int o_111, .int o_112, .long o_113, .int o_126, .int o_127, .int v14, .int v15, .ref m16, .ref m17, .ref m18, .ref m19, .ref m20, .ref m21, .ref m22, .ref m23, .int v24, .ref m25, .ref m26, .ref m27, .ref m28, .ref m29, .int v30, .ref m31, .ref m32, .ref m33, .int v34, .int v35, .int v36, .ref m37, .ref m38, .ref m39, .ref m40, .long v41]))] H1 := hP
              have hD : va_D A [(m18, .inl (k 0, 250, .inl f18)), (m19, .inl (k 0, 40, .inl f19)), (m20, .inl (k 0, 120, .inl f20)), (m21, .inl (k 0, 20, .inl f21)), (m5, .inl (k 1, 1000, .inl f5)), (m17, .inl (k 0, 30, .inl f17)), (mo, .inr (12, [.int v0, .ref m1, .ref m2, .ref m3, .ref m4, .ref m5, .int v6, .int o_109, .int o_110, .int o_111, .int o_112, .long o_113, .int o_126, .int o_127, .int v14, .int v15, .ref m16, .ref m17, .ref m18, .ref m19, .ref m20, .ref m21, .ref m22, .ref m23, .int v24, .ref m25, .ref m26, .ref m27, .ref m28, .ref m29, .int v30, .ref m31, .ref m32, .ref m33, .int v34, .int v35, .int v36, .ref m37, .ref m38, .ref m39, .ref m40, .long v41]))] := hD
              generalize H1 = H at hP hS ⊢
              have hw_128 : ((o_114.toInt = 0 ∧ o_126.toInt = 1) ∨ (¬ o_114.toInt = 0 ∧ o_126.toInt = o_114.toInt)) := hw
              have hw_129 := hw_128
              clear hw
              obtain ⟨hP9, hD9⟩ := sub2 hP hD (ws' := [(mo, .inr (12, [.int v0, .ref m1, .ref m2, .ref m3, .ref m4, .ref m5, .int v6, .int o_109, .int o_110, .int o_111, .int o_112, .long o_113, .int o_126, .int o_127, .int v14, .int v15, .ref m16, .ref m17, .ref m18, .ref m19, .ref m20, .ref m21, .ref m22, .ref m23, .int v24, .ref m25, .ref m26, .ref m27, .ref m28, .ref m29, .int v30, .ref m31, .ref m32, .ref m33, .int v34, .int v35, .int v36, .ref m37, .ref m38, .ref m39, .ref m40, .long v41])), (m5, .inl (k 1, 1000, .inl f5)), (m17, .inl (k 0, 30, .inl f17)), (m18, .inl (k 0, 250, .inl f18)), (m19, .inl (k 0, 40, .inl f19)), (m20, .inl (k 0, 120, .inl f20)), (m21, .inl (k 0, 20, .inl f21))]) [6, 4, 5, 0, 1, 2, 3] (by decide +kernel) rfl
              exact W.vret hx hb hr (fun tZ ht hW => ⟨⟨(o_109, o_110, o_111, o_112, o_113, o_126, o_127, f17, f21, f20, f19, f18), rfl, ⟨(show 0 ≤ o_109.toInt ∧ o_109.toInt ≤ 1000 from by omega), hp_f17_0, hp_f17_1, hp_f17_2, hp_f17_3, hp_f17_4, hp_f17_5, hp_f21_0, hp_f21_1, hp_f20_0, hp_f19_0, hp_f19_1, hp_f18_0, hp_f18_1, hp_f18_2, hp_f18_3, (show v7.toInt ≤ o_109.toInt ∧ o_109.toInt ≤ v6.toInt from by omega), hTK⟩, by rw [ht]; exact hP9, va_K.moved hW.alike hK, hD9⟩, hS.F ht⟩) hS.2.2 dX12_line_222
          · skip
            have zh_123 : o_114.toInt = 0 := z_eq h_123
            refine lv_aload_n hx hb dX12_line_139 rfl (lv_at hl 0 rfl) ?_
            refine lv_aload_n hx hb dX12_line_140 rfl (lv_at hl 0 rfl) ?_
            refine lv_ldc2 (v := 206754213222) hx hb hown (hts _ tw_7_77) dX12_line_141 ?_
            obtain ⟨hPc, hDc, hFc⟩ := sub3 hP hD hS hA (ws' := [(mo, .inr (12, [.int v0, .ref m1, .ref m2, .ref m3, .ref m4, .ref m5, .int v6, .int o_109, .int o_110, .int o_111, .int o_112, .long o_113, .int o_114, .int o_115, .int v14, .int v15, .ref m16, .ref m17, .ref m18, .ref m19, .ref m20, .ref m21, .ref m22, .ref m23, .int v24, .ref m25, .ref m26, .ref m27, .ref m28, .ref m29, .int v30, .ref m31, .ref m32, .ref m33, .int v34, .int v35, .int v36, .ref m37, .ref m38, .ref m39, .ref m40, .long v41]))]) [4] (by decide +kernel) rfl
            refine va_calli (va_runV (C := RX12) (As := [.long 206754213222]) (rest := [.ref mo]) ⟨hx, hb, hml, hown, hts⟩ (c_X12_is l D k mo 206754213222 v0 m1 m2 m3 m4 m5 v6 o_109 o_110 o_111 o_112 o_113 o_114 o_115 v14 v15 m16 m17 m18 m19 m20 m21 m22 m23 v24 m25 m26 m27 m28 m29 v30 m31 m32 m33 v34 v35 v36 m37 m38 m39 m40 v41 H.size (show 0 ≤ v6.toInt ∧ v6.toInt ≤ 1000 from by omega) (show 0 ≤ v24.toInt ∧ v24.toInt ≤ 1023 from by omega)) (cwV 1 hts (gV tw_7_20 tw_7_22 tw_p_44 tw_1_13 tw_7_23) rfl rfl rfl hdV_X12_is ⟨Nat.le_of_ble_eq_true rfl, Nat.le_of_ble_eq_true rfl⟩) (cz_V hK hPc hDc hN (ci := 12) (q0 := 0) rfl rfl [.long 206754213222]) rfl rfl hl.1 rfl (lv_room (Nat.le_of_ble_eq_true rfl)) dX12_line_144 ⟨Nat.le_of_ble_eq_true rfl, Nat.le_of_ble_eq_true rfl⟩) hS (fun q _ h => hFc q h) hFc (fun r_130 uZ tZ H1 locs ht hvm hw hB hz1 hk1 hS => ?_)
            obtain ⟨hP1, hK1, hD1⟩ := hB
            rw [ht] at hP1
            obtain ⟨hP, hD⟩ := va_join (wr := [(m18, .inl (k 0, 250, .inl f18)), (m19, .inl (k 0, 40, .inl f19)), (m20, .inl (k 0, 120, .inl f20)), (m21, .inl (k 0, 20, .inl f21)), (m5, .inl (k 1, 1000, .inl f5)), (m17, .inl (k 0, 30, .inl f17))]) (w1 := [(mo, .inr (12, [.int v0, .ref m1, .ref m2, .ref m3, .ref m4, .ref m5, .int v6, .int o_109, .int o_110, .int o_111, .int o_112, .long o_113, .int o_114, .int o_115, .int v14, .int v15, .ref m16, .ref m17, .ref m18, .ref m19, .ref m20, .ref m21, .ref m22, .ref m23, .int v24, .ref m25, .ref m26, .ref m27, .ref m28, .ref m29, .int v30, .ref m31, .ref m32, .ref m33, .int v34, .int v35, .int v36, .ref m37, .ref m38, .ref m39, .ref m40, .long v41]))]) hP hD [4] [0, 1, 2, 3, 5, 6] rfl rfl (by decide +kernel) (by decide +kernel) hk1 hFc hP1 hD1
            clear hK1 hP1 hD1 hPc hDc hFc
            clear hk1 hz1 ht hvm
            have hP : va_P D vwCl [(m18, .inl (k 0, 250, .inl f18)), (m19, .inl (k 0, 40, .inl f19)), (m20, .inl (k 0, 120, .inl f20)), (m21, .inl (k 0, 20, .inl f21)), (m5, .inl (k 1, 1000, .inl f5)), (m17, .inl (k 0, 30, .inl f17)), (mo, .inr (12, [.int v0, .ref m1, .ref m2, .ref m3, .ref m4, .ref m5, .int v6, .int o_109, .int o_110, .int o_111, .int o_112, .long o_113, .int o_114, .int o_115, .int v14, .int v15, .ref m16, .ref m17, .ref m18, .ref m19, .ref m20, .ref m21, .ref m22, .ref m23, .int v24, .ref m25, .ref m26, .ref m27, .ref m28, .ref m29, .int v30, .ref m31, .ref m32, .ref m33, .int v34, .int v35, .int v36, .ref m37, .ref m38, .ref m39, .ref m40, .long v41]))] H1 := hP
            have hD : va_D A [(m18, .inl (k 0, 250, .inl f18)), (m19, .inl (k 0, 40, .inl f19)), (m20, .inl (k 0, 120, .inl f20)), (m21, .inl (k 0, 20, .inl f21)), (m5, .inl (k 1, 1000, .inl f5)), (m17, .inl (k 0, 30, .inl f17)), (mo, .inr (12, [.int v0, .ref m1, .ref m2, .ref m3, .ref m4, .ref m5, .int v6, .int o_109, .int o_110, .int o_111, .int o_112, .long o_113, .int o_114, .int o_115, .int v14, .int v15, .ref m16, .ref m17, .ref m18, .ref m19, .ref m20, .ref m21, .ref m22, .ref m23, .int v24, .ref m25, .ref m26, .ref m27, .ref m28, .ref m29, .int v30, .ref m31, .ref m32, .ref m33, .int v34, .int v35, .int v36, .ref m37, .ref m38, .ref m39, .ref m40, .long v41]))] := hD
            generalize H1 = H at hP hS ⊢
            have hw_131 : (0 ≤ r_130.toInt ∧ r_130.toInt ≤ 1) := hw
            have hw_132 := hw_131
            clear hw
            refine lv_iconst (v := 4) hx hb dX12_line_147 (by decide) ?_
            refine lv_iconst (v := 2) hx hb dX12_line_148 (by decide) ?_
            obtain ⟨hPc, hDc, hFc⟩ := sub3 hP hD hS hA (ws' := [(mo, .inr (12, [.int v0, .ref m1, .ref m2, .ref m3, .ref m4, .ref m5, .int v6, .int o_109, .int o_110, .int o_111, .int o_112, .long o_113, .int o_114, .int o_115, .int v14, .int v15, .ref m16, .ref m17, .ref m18, .ref m19, .ref m20, .ref m21, .ref m22, .ref m23, .int v24, .ref m25, .ref m26, .ref m27, .ref m28, .ref m29, .int v30, .ref m31, .ref m32, .ref m33, .int v34, .int v35, .int v36, .ref m37, .ref m38, .ref m39, .ref m40, .long v41])), (m5, .inl (k 1, 1000, .inl f5)), (m17, .inl (k 0, 30, .inl f17))]) [6, 4, 5] (by decide +kernel) rfl
            refine va_calli (va_runV (C := RX12) (As := [.int r_130, .int 4, .int 2]) (rest := []) ⟨hx, hb, hml, hown, hts⟩ (c_X12_isRoom_3 l D k mo r_130 v0 m1 m2 m3 m4 m5 v6 o_109 o_110 o_111 o_112 o_113 o_114 o_115 v14 v15 m16 m17 m18 m19 m20 m21 m22 m23 v24 m25 m26 m27 m28 m29 v30 m31 m32 m33 v34 v35 v36 m37 m38 m39 m40 v41 f5 f17 H.size (show 0 ≤ r_130.toInt ∧ r_130.toInt ≤ 1 from by omega) (show 0 ≤ v6.toInt ∧ v6.toInt ≤ 1000 from by omega) (show 0 ≤ o_109.toInt ∧ o_109.toInt ≤ 1000 from by omega) (show 0 ≤ v24.toInt ∧ v24.toInt ≤ 1023 from by omega) hp_f17_0 hp_f17_1 hp_f17_2 hp_f17_3 hp_f17_4 hp_f17_5 (show o_109.toInt ≤ v6.toInt from by omega)) (cwV 3 hts (gV tw_7_42 tw_7_44 tw_p_49 tw_1_13 tw_7_45) rfl rfl rfl hdV_X12_isRoom ⟨Nat.le_of_ble_eq_true rfl, Nat.le_of_ble_eq_true rfl⟩) (cz_V hK hPc hDc hN (ci := 12) (q0 := 0) rfl rfl [.int r_130, .int 4, .int 2]) rfl rfl hl.1 rfl (lv_room (Nat.le_of_ble_eq_true rfl)) dX12_line_149 ⟨Nat.le_of_ble_eq_true rfl, Nat.le_of_ble_eq_true rfl⟩) hS (fun q _ h => hFc q h) hFc (fun r_133 uZ tZ H1 locs ht hvm hw hB hz1 hk1 hS => ?_)
            obtain ⟨o_134, o_135, o_136, o_137, o_138, o_139, o_140⟩ := uZ
            obtain ⟨hP1, hK1, hD1⟩ := hB
            rw [ht] at hP1
            obtain ⟨hP, hD⟩ := va_join (wr := [(m18, .inl (k 0, 250, .inl f18)), (m19, .inl (k 0, 40, .inl f19)), (m20, .inl (k 0, 120, .inl f20)), (m21, .inl (k 0, 20, .inl f21))]) (w1 := [(mo, .inr (12, [.int v0, .ref m1, .ref m2, .ref m3, .ref m4, .ref m5, .int v6, .int o_134, .int o_135, .int o_136, .int o_137, .long o_138, .int o_139, .int o_140, .int v14, .int v15, .ref m16, .ref m17, .ref m18, .ref m19, .ref m20, .ref m21, .ref m22, .ref m23, .int v24, .ref m25, .ref m26, .ref m27, .ref m28, .ref m29, .int v30, .ref m31, .ref m32, .ref m33, .int v34, .int v35, .int v36, .ref m37, .ref m38, .ref m39, .ref m40, .long v41])), (m5, .inl (k 1, 1000, .inl f5)), (m17, .inl (k 0, 30, .inl f17))]) hP hD [6, 4, 5] [0, 1, 2, 3] rfl rfl (by decide +kernel) (by decide +kernel) hk1 hFc hP1 hD1
            clear hK1 hP1 hD1 hPc hDc hFc
            clear hk1 hz1 ht hvm
            have hP : va_P D vwCl [(m18, .inl (k 0, 250, .inl f18)), (m19, .inl (k 0, 40, .inl f19)), (m20, .inl (k 0, 120, .inl f20)), (m21, .inl (k 0, 20, .inl f21)), (mo, .inr (12, [.int v0, .ref m1, .ref m2, .ref m3, .ref m4, .ref m5, .int v6, .int o_134, .int o_135, .int o_136, .int o_137, .long o_138, .int o_139, .int o_140, .int v14, .int v15, .ref m16, .ref m17, .ref m18, .ref m19, .ref m20, .ref m21, .ref m22, .ref m23, .int v24, .ref m25, .ref m26, .ref m27, .ref m28, .ref m29, .int v30, .ref m31, .ref m32, .ref m33, .int v34, .int v35, .int v36, .ref m37, .ref m38, .ref m39, .ref m40, .long v41])), (m5, .inl (k 1, 1000, .inl f5)), (m17, .inl (k 0, 30, .inl f17))] H1 := hP
            have hD : va_D A [(m18, .inl (k 0, 250, .inl f18)), (m19, .inl (k 0, 40, .inl f19)), (m20, .inl (k 0, 120, .inl f20)), (m21, .inl (k 0, 20, .inl f21)), (mo, .inr (12, [.int v0, .ref m1, .ref m2, .ref m3, .ref m4, .ref m5, .int v6, .int o_134, .int o_135, .int o_136, .int o_137, .long o_138, .int o_139, .int o_140, .int v14, .int v15, .ref m16, .ref m17, .ref m18, .ref m19, .ref m20, .ref m21, .ref m22, .ref m23, .int v24, .ref m25, .ref m26, .ref m27, .ref m28, .ref m29, .int v30, .ref m31, .ref m32, .ref m33, .int v34, .int v35, .int v36, .ref m37, .ref m38, .ref m39, .ref m40, .long v41])), (m5, .inl (k 1, 1000, .inl f5)), (m17, .inl (k 0, 30, .inl f17))] := hD
            generalize H1 = H at hP hS ⊢
            have hw_141 : (0 ≤ r_133.toInt ∧ r_133.toInt ≤ 1) ∧ (0 ≤ o_134.toInt ∧ o_134.toInt ≤ 1000) ∧ (o_109.toInt ≤ o_134.toInt ∧ o_134.toInt ≤ v6.toInt) ∧ (r_133.toInt = 0 ∨ (f17 28).toInt ≤ 1) ∧ (r_133.toInt = 0 ∨ o_139.toInt = 0) := hw
            obtain ⟨hw_142, hw_143, hw_144, hw_145, hw_146⟩ := hw_141
            clear hw
            refine lv_if_eq (tgt := 210) hx hb dX12_line_152 (by decide) (fun h_147 => ?_) (fun h_147 => ?_)
            · skip
              have zh_147 : r_133.toInt = 0 := z_eq h_147
              refine lv_aload_n hx hb dX12_line_210 rfl (lv_at hl 0 rfl) ?_
              refine va_get (D := D) (ci := 12) (v := .int o_139) (C := RX12) (T := TX12) (N := 42) hx hb hts iT_X12 hown hK hP 4 rfl rfl 12 (by decide) (hts _ tw_6_65) (fun _ h9 => h9) rfl dX12_line_211 ?_
              refine lv_if_ne (tgt := 222) hx hb dX12_line_214 (by decide) (fun h_148 => ?_) (fun h_148 => ?_)
              · skip
                have zh_148 : ¬ o_139.toInt = 0 := z_ne h_148
                obtain ⟨hP9, hD9⟩ := sub2 hP hD (ws' := [(mo, .inr (12, [.int v0, .ref m1, .ref m2, .ref m3, .ref m4, .ref m5, .int v6, .int o_134, .int o_135, .int o_136, .int o_137, .long o_138, .int o_139, .int o_140, .int v14, .int v15, .ref m16, .ref m17, .ref m18, .ref m19, .ref m20, .ref m21, .ref m22, .ref m23, .int v24, .ref m25, .ref m26, .ref m27, .ref m28, .ref m29, .int v30, .ref m31, .ref m32, .ref m33, .int v34, .int v35, .int v36, .ref m37, .ref m38, .ref m39, .ref m40, .long v41])), (m5, .inl (k 1, 1000, .inl f5)), (m17, .inl (k 0, 30, .inl f17)), (m18, .inl (k 0, 250, .inl f18)), (m19, .inl (k 0, 40, .inl f19)), (m20, .inl (k 0, 120, .inl f20)), (m21, .inl (k 0, 20, .inl f21))]) [4, 5, 6, 0, 1, 2, 3] (by decide +kernel) rfl
                exact W.vret hx hb hr (fun tZ ht hW => ⟨⟨(o_134, o_135, o_136, o_137, o_138, o_139, o_140, f17, f21, f20, f19, f18), rfl, ⟨(show 0 ≤ o_134.toInt ∧ o_134.toInt ≤ 1000 from by omega), hp_f17_0, hp_f17_1, hp_f17_2, hp_f17_3, hp_f17_4, hp_f17_5, hp_f21_0, hp_f21_1, hp_f20_0, hp_f19_0, hp_f19_1, hp_f18_0, hp_f18_1, hp_f18_2, hp_f18_3, (show v7.toInt ≤ o_134.toInt ∧ o_134.toInt ≤ v6.toInt from by omega), hTK⟩, by rw [ht]; exact hP9, va_K.moved hW.alike hK, hD9⟩, hS.F ht⟩) hS.2.2 dX12_line_222
              · skip
                have zh_148 : o_139.toInt = 0 := z_eq h_148
                refine lv_aload_n hx hb dX12_line_217 rfl (lv_at hl 0 rfl) ?_
                refine lv_iconst (v := 1) hx hb dX12_line_218 (by decide) ?_
                obtain ⟨hPc, hDc, hFc⟩ := sub3 hP hD hS hA (ws' := [(mo, .inr (12, [.int v0, .ref m1, .ref m2, .ref m3, .ref m4, .ref m5, .int v6, .int o_134, .int o_135, .int o_136, .int o_137, .long o_138, .int o_139, .int o_140, .int v14, .int v15, .ref m16, .ref m17, .ref m18, .ref m19, .ref m20, .ref m21, .ref m22, .ref m23, .int v24, .ref m25, .ref m26, .ref m27, .ref m28, .ref m29, .int v30, .ref m31, .ref m32, .ref m33, .int v34, .int v35, .int v36, .ref m37, .ref m38, .ref m39, .ref m40, .long v41]))]) [4] (by decide +kernel) rfl
                refine va_callv (va_runV (C := RX12) (As := [.int 1]) (rest := []) ⟨hx, hb, hml, hown, hts⟩ (c_X12_fails l D k mo 1 v0 m1 m2 m3 m4 m5 v6 o_134 o_135 o_136 o_137 o_138 o_139 o_140 v14 v15 m16 m17 m18 m19 m20 m21 m22 m23 v24 m25 m26 m27 m28 m29 v30 m31 m32 m33 v34 v35 v36 m37 m38 m39 m40 v41 H.size (show 0 ≤ v6.toInt ∧ v6.toInt ≤ 1000 from by omega) (show 0 ≤ v24.toInt ∧ v24.toInt ≤ 1023 from by omega)) (cwV 1 hts (gV tw_7_24 tw_7_26 tw_p_45 tw_1_13 tw_7_27) rfl rfl rfl hdV_X12_fails ⟨Nat.le_of_ble_eq_true rfl, Nat.le_of_ble_eq_true rfl⟩) (cz_V hK hPc hDc hN (ci := 12) (q0 := 0) rfl rfl [.int 1]) rfl rfl hl.1 rfl (lv_room (Nat.le_of_ble_eq_true rfl)) dX12_line_219 ⟨Nat.le_of_ble_eq_true rfl, Nat.le_of_ble_eq_true rfl⟩) hS (fun q _ h => hFc q h) hFc (fun uZ tZ H1 locs ht hvm hw hB hz1 hk1 hS => ?_)
                obtain ⟨o_150, o_151⟩ := uZ
                obtain ⟨hP1, hK1, hD1⟩ := hB
                rw [ht] at hP1
                obtain ⟨hP, hD⟩ := va_join (wr := [(m18, .inl (k 0, 250, .inl f18)), (m19, .inl (k 0, 40, .inl f19)), (m20, .inl (k 0, 120, .inl f20)), (m21, .inl (k 0, 20, .inl f21)), (m5, .inl (k 1, 1000, .inl f5)), (m17, .inl (k 0, 30, .inl f17))]) (w1 := [(mo, .inr (12, [.int v0, .ref m1, .ref m2, .ref m3, .ref m4, .ref m5, .int v6, .int o_134, .int o_135, .int o_136, .int o_137, .long o_138, .int o_150, .int o_151, .int v14, .int v15, .ref m16, .ref m17, .ref m18, .ref m19, .ref m20, .ref m21, .ref m22, .ref m23, .int v24, .ref m25, .ref m26, .ref m27, .ref m28, .ref m29, .int v30, .ref m31, .ref m32, .ref m33, .int v34, .int v35, .int v36, .ref m37, .ref m38, .ref m39, .ref m40, .long v41]))]) hP hD [4] [0, 1, 2, 3, 5, 6] rfl rfl (by decide +kernel) (by decide +kernel) hk1 hFc hP1 hD1
                clear hK1 hP1 hD1 hPc hDc hFc
                clear hk1 hz1 ht hvm
                have hP : va_P D vwCl [(m18, .inl (k 0, 250, .inl f18)), (m19, .inl (k 0, 40, .inl f19)), (m20, .inl (k 0, 120, .inl f20)), (m21, .inl (k 0, 20, .inl f21)), (m5, .inl (k 1, 1000, .inl f5)), (m17, .inl (k 0, 30, .inl f17)), (mo, .inr (12, [.int v0, .ref m1, .ref m2, .ref m3, .ref m4, .ref m5, .int v6, .int o_134, .int o_135, .int o_136, .int o_137, .long o_138, .int o_150, .int o_151, .int v14, .int v15, .ref m16, .ref m17, .ref m18, .ref m19, .ref m20, .ref m21, .ref m22, .ref m23, .int v24, .ref m25, .ref m26, .ref m27, .ref m28, .ref m29, .int v30, .ref m31, .ref m32, .ref m33, .int v34, .int v35, .int v36, .ref m37, .ref m38, .ref m39, .ref m40, .long v41]))] H1 := hP
                have hD : va_D A [(m18, .inl (k 0, 250, .inl f18)), (m19, .inl (k 0, 40, .inl f19)), (m20, .inl (k 0, 120, .inl f20)), (m21, .inl (k 0, 20, .inl f21)), (m5, .inl (k 1, 1000, .inl f5)), (m17, .inl (k 0, 30, .inl f17)), (mo, .inr (12, [.int v0, .ref m1, .ref m2, .ref m3, .ref m4, .ref m5, .int v6, .int o_134, .int o_135, .int o_136, .int o_137, .long o_138, .int o_150, .int o_151, .int v14, .int v15, .ref m16, .ref m17, .ref m18, .ref m19, .ref m20, .ref m21, .ref m22, .ref m23, .int v24, .ref m25, .ref m26, .ref m27, .ref m28, .ref m29, .int v30, .ref m31, .ref m32, .ref m33, .int v34, .int v35, .int v36, .ref m37, .ref m38, .ref m39, .ref m40, .long v41]))] := hD
                generalize H1 = H at hP hS ⊢
                have hw_152 : ((o_139.toInt = 0 ∧ o_150.toInt = 1) ∨ (¬ o_139.toInt = 0 ∧ o_150.toInt = o_139.toInt)) := hw
                have hw_153 := hw_152
                clear hw
                obtain ⟨hP9, hD9⟩ := sub2 hP hD (ws' := [(mo, .inr (12, [.int v0, .ref m1, .ref m2, .ref m3, .ref m4, .ref m5, .int v6, .int o_134, .int o_135, .int o_136, .int o_137, .long o_138, .int o_150, .int o_151, .int v14, .int v15, .ref m16, .ref m17, .ref m18, .ref m19, .ref m20, .ref m21, .ref m22, .ref m23, .int v24, .ref m25, .ref m26, .ref m27, .ref m28, .ref m29, .int v30, .ref m31, .ref m32, .ref m33, .int v34, .int v35, .int v36, .ref m37, .ref m38, .ref m39, .ref m40, .long v41])), (m5, .inl (k 1, 1000, .inl f5)), (m17, .inl (k 0, 30, .inl f17)), (m18, .inl (k 0, 250, .inl f18)), (m19, .inl (k 0, 40, .inl f19)), (m20, .inl (k 0, 120, .inl f20)), (m21, .inl (k 0, 20, .inl f21))]) [6, 4, 5, 0, 1, 2, 3] (by decide +kernel) rfl
                exact W.vret hx hb hr (fun tZ ht hW => ⟨⟨(o_134, o_135, o_136, o_137, o_138, o_150, o_151, f17, f21, f20, f19, f18), rfl, ⟨(show 0 ≤ o_134.toInt ∧ o_134.toInt ≤ 1000 from by omega), hp_f17_0, hp_f17_1, hp_f17_2, hp_f17_3, hp_f17_4, hp_f17_5, hp_f21_0, hp_f21_1, hp_f20_0, hp_f19_0, hp_f19_1, hp_f18_0, hp_f18_1, hp_f18_2, hp_f18_3, (show v7.toInt ≤ o_134.toInt ∧ o_134.toInt ≤ v6.toInt from by omega), hTK⟩, by rw [ht]; exact hP9, va_K.moved hW.alike hK, hD9⟩, hS.F ht⟩) hS.2.2 dX12_line_222
            · skip
              have zh_147 : ¬ r_133.toInt = 0 := z_ne h_147
              refine lv_iconst (v := 2) hx hb dX12_line_155 (by decide) ?_
              refine lv_bipush (v := 8) hx hb dX12_line_156 (by decide) ?_
              refine lv_aload_n hx hb dX12_line_158 rfl (lv_at hl 0 rfl) ?_
              refine lv_iconst (v := 4) hx hb dX12_line_159 (by decide) ?_
              obtain ⟨hPc, hDc, hFc⟩ := sub3 hP hD hS hA (ws' := [(mo, .inr (12, [.int v0, .ref m1, .ref m2, .ref m3, .ref m4, .ref m5, .int v6, .int o_134, .int o_135, .int o_136, .int o_137, .long o_138, .int o_139, .int o_140, .int v14, .int v15, .ref m16, .ref m17, .ref m18, .ref m19, .ref m20, .ref m21, .ref m22, .ref m23, .int v24, .ref m25, .ref m26, .ref m27, .ref m28, .ref m29, .int v30, .ref m31, .ref m32, .ref m33, .int v34, .int v35, .int v36, .ref m37, .ref m38, .ref m39, .ref m40, .long v41])), (m17, .inl (k 0, 30, .inl f17))]) [4, 6] (by decide +kernel) rfl
              refine va_calli (va_runV (C := RX12) (As := [.int 4]) (rest := [.int 8, .int 2]) ⟨hx, hb, hml, hown, hts⟩ (c_X12_hasRead_4 l D k mo v0 m1 m2 m3 m4 m5 v6 o_134 o_135 o_136 o_137 o_138 o_139 o_140 v14 v15 m16 m17 m18 m19 m20 m21 m22 m23 v24 m25 m26 m27 m28 m29 v30 m31 m32 m33 v34 v35 v36 m37 m38 m39 m40 v41 f17 H.size (show 0 ≤ v6.toInt ∧ v6.toInt ≤ 1000 from by omega) (show 0 ≤ v24.toInt ∧ v24.toInt ≤ 1023 from by omega) hp_f17_0 hp_f17_1 hp_f17_2 hp_f17_3 hp_f17_4 hp_f17_5) (cwV 1 hts (gV tw_7_46 tw_7_48 tw_p_50 tw_1_13 tw_7_49) rfl rfl rfl hdV_X12_hasRead ⟨Nat.le_of_ble_eq_true rfl, Nat.le_of_ble_eq_true rfl⟩) (cz_V hK hPc hDc hN (ci := 12) (q0 := 0) rfl rfl [.int 4]) rfl rfl hl.1 rfl (lv_room (Nat.le_of_ble_eq_true rfl)) dX12_line_160 ⟨Nat.le_of_ble_eq_true rfl, Nat.le_of_ble_eq_true rfl⟩) hS (fun q _ h => hFc q h) hFc (fun r_154 uZ tZ H1 locs ht hvm hw hB hz1 hk1 hS => ?_)
              obtain ⟨hP1, hK1, hD1⟩ := hB
              rw [ht] at hP1
              obtain ⟨hP, hD⟩ := va_join (wr := [(m18, .inl (k 0, 250, .inl f18)), (m19, .inl (k 0, 40, .inl f19)), (m20, .inl (k 0, 120, .inl f20)), (m21, .inl (k 0, 20, .inl f21)), (m5, .inl (k 1, 1000, .inl f5))]) (w1 := [(mo, .inr (12, [.int v0, .ref m1, .ref m2, .ref m3, .ref m4, .ref m5, .int v6, .int o_134, .int o_135, .int o_136, .int o_137, .long o_138, .int o_139, .int o_140, .int v14, .int v15, .ref m16, .ref m17, .ref m18, .ref m19, .ref m20, .ref m21, .ref m22, .ref m23, .int v24, .ref m25, .ref m26, .ref m27, .ref m28, .ref m29, .int v30, .ref m31, .ref m32, .ref m33, .int v34, .int v35, .int v36, .ref m37, .ref m38, .ref m39, .ref m40, .long v41])), (m17, .inl (k 0, 30, .inl f17))]) hP hD [4, 6] [0, 1, 2, 3, 5] rfl rfl (by decide +kernel) (by decide +kernel) hk1 hFc hP1 hD1
              clear hK1 hP1 hD1 hPc hDc hFc
              clear hk1 hz1 ht hvm
              have hP : va_P D vwCl [(m18, .inl (k 0, 250, .inl f18)), (m19, .inl (k 0, 40, .inl f19)), (m20, .inl (k 0, 120, .inl f20)), (m21, .inl (k 0, 20, .inl f21)), (m5, .inl (k 1, 1000, .inl f5)), (mo, .inr (12, [.int v0, .ref m1, .ref m2, .ref m3, .ref m4, .ref m5, .int v6, .int o_134, .int o_135, .int o_136, .int o_137, .long o_138, .int o_139, .int o_140, .int v14, .int v15, .ref m16, .ref m17, .ref m18, .ref m19, .ref m20, .ref m21, .ref m22, .ref m23, .int v24, .ref m25, .ref m26, .ref m27, .ref m28, .ref m29, .int v30, .ref m31, .ref m32, .ref m33, .int v34, .int v35, .int v36, .ref m37, .ref m38, .ref m39, .ref m40, .long v41])), (m17, .inl (k 0, 30, .inl f17))] H1 := hP
              have hD : va_D A [(m18, .inl (k 0, 250, .inl f18)), (m19, .inl (k 0, 40, .inl f19)), (m20, .inl (k 0, 120, .inl f20)), (m21, .inl (k 0, 20, .inl f21)), (m5, .inl (k 1, 1000, .inl f5)), (mo, .inr (12, [.int v0, .ref m1, .ref m2, .ref m3, .ref m4, .ref m5, .int v6, .int o_134, .int o_135, .int o_136, .int o_137, .long o_138, .int o_139, .int o_140, .int v14, .int v15, .ref m16, .ref m17, .ref m18, .ref m19, .ref m20, .ref m21, .ref m22, .ref m23, .int v24, .ref m25, .ref m26, .ref m27, .ref m28, .ref m29, .int v30, .ref m31, .ref m32, .ref m33, .int v34, .int v35, .int v36, .ref m37, .ref m38, .ref m39, .ref m40, .long v41])), (m17, .inl (k 0, 30, .inl f17))] := hD
              generalize H1 = H at hP hS ⊢
              have hw_155 : (0 ≤ r_154.toInt ∧ r_154.toInt ≤ 2) ∧ (r_154 = f17 28) := hw
              obtain ⟨hw_156, hw_157⟩ := hw_155
              clear hw
              have zhr_154 : r_154.toInt = (f17 28).toInt := by rw [hw_157]
              refine lv_iadd hx hb dX12_line_163 ?_
              refine lv_topi (fun x_158 ex_158 => ?_)
              have zx_158 : x_158.toInt = 8 + r_154.toInt := by rw [ex_158]; exact z_add rfl rfl (by omega) (by omega)
              refine lv_imul hx hb dX12_line_164 ?_
              refine lv_topi (fun x_159 ex_159 => ?_)
              have zx_159 : x_159.toInt = 2 * x_158.toInt := by rw [ex_159]; exact z_mul rfl rfl (by omega) (by omega)
              refine lv_istore_n (lv' := [(1, .int x_159), (0, .ref mo)]) hx hb dX12_line_165 rfl hl (by decide) rfl (fun ls hl => ?_)
              refine lv_aload_n hx hb dX12_line_166 rfl (lv_at hl 1 rfl) ?_
              refine va_get (D := D) (ci := 12) (v := .ref m21) (C := RX12) (T := TX12) (N := 42) hx hb hts iT_X12 hown hK hP 5 rfl rfl 21 (by decide) (hts _ tw_6_74) (fun _ h9 => h9) rfl dX12_line_167 ?_
              refine lv_iload_n hx hb dX12_line_170 rfl (lv_at hl 0 rfl) ?_
              refine lv_aload_n hx hb dX12_line_171 rfl (lv_at hl 1 rfl) ?_
              obtain ⟨hPc, hDc, hFc⟩ := sub3 hP hD hS hA (ws' := [(mo, .inr (12, [.int v0, .ref m1, .ref m2, .ref m3, .ref m4, .ref m5, .int v6, .int o_134, .int o_135, .int o_136, .int o_137, .long o_138, .int o_139, .int o_140, .int v14, .int v15, .ref m16, .ref m17, .ref m18, .ref m19, .ref m20, .ref m21, .ref m22, .ref m23, .int v24, .ref m25, .ref m26, .ref m27, .ref m28, .ref m29, .int v30, .ref m31, .ref m32, .ref m33, .int v34, .int v35, .int v36, .ref m37, .ref m38, .ref m39, .ref m40, .long v41])), (m5, .inl (k 1, 1000, .inl f5)), (m17, .inl (k 0, 30, .inl f17))]) [5, 4, 6] (by decide +kernel) rfl
              refine va_calli (va_runV (C := RX12) (As := []) (rest := [.int x_159, .ref m21]) ⟨hx, hb, hml, hown, hts⟩ (c_X12_streetAt l D k mo v0 m1 m2 m3 m4 m5 v6 o_134 o_135 o_136 o_137 o_138 o_139 o_140 v14 v15 m16 m17 m18 m19 m20 m21 m22 m23 v24 m25 m26 m27 m28 m29 v30 m31 m32 m33 v34 v35 v36 m37 m38 m39 m40 v41 f5 f17 H.size (show 0 ≤ v6.toInt ∧ v6.toInt ≤ 1000 from by omega) (show 0 ≤ o_134.toInt ∧ o_134.toInt ≤ 1000 from by omega) (show 0 ≤ v24.toInt ∧ v24.toInt ≤ 1023 from by omega) hp_f17_0 hp_f17_1 hp_f17_2 hp_f17_3 hp_f17_4 hp_f17_5 (show o_134.toInt ≤ v6.toInt from by omega)) (cwV 0 hts (gV tw_7_63 tw_7_65 tw_p_53 tw_1_13 tw_7_66) rfl rfl rfl hdV_X12_streetAt ⟨Nat.le_of_ble_eq_true rfl, Nat.le_of_ble_eq_true rfl⟩) (cz_V hK hPc hDc hN (ci := 12) (q0 := 0) rfl rfl []) rfl rfl hl.1 rfl (lv_room (Nat.le_of_ble_eq_true rfl)) dX12_line_172 ⟨Nat.le_of_ble_eq_true rfl, Nat.le_of_ble_eq_true rfl⟩) hS (fun q _ h => hFc q h) hFc (fun r_160 uZ tZ H1 locs ht hvm hw hB hz1 hk1 hS => ?_)
              obtain ⟨o_161, o_162, o_163, o_164, o_165, o_166, o_167⟩ := uZ
              obtain ⟨hP1, hK1, hD1⟩ := hB
              rw [ht] at hP1
              obtain ⟨hP, hD⟩ := va_join (wr := [(m18, .inl (k 0, 250, .inl f18)), (m19, .inl (k 0, 40, .inl f19)), (m20, .inl (k 0, 120, .inl f20)), (m21, .inl (k 0, 20, .inl f21))]) (w1 := [(mo, .inr (12, [.int v0, .ref m1, .ref m2, .ref m3, .ref m4, .ref m5, .int v6, .int o_161, .int o_162, .int o_163, .int o_164, .long o_165, .int o_166, .int o_167, .int v14, .int v15, .ref m16, .ref m17, .ref m18, .ref m19, .ref m20, .ref m21, .ref m22, .ref m23, .int v24, .ref m25, .ref m26, .ref m27, .ref m28, .ref m29, .int v30, .ref m31, .ref m32, .ref m33, .int v34, .int v35, .int v36, .ref m37, .ref m38, .ref m39, .ref m40, .long v41])), (m5, .inl (k 1, 1000, .inl f5)), (m17, .inl (k 0, 30, .inl f17))]) hP hD [5, 4, 6] [0, 1, 2, 3] rfl rfl (by decide +kernel) (by decide +kernel) hk1 hFc hP1 hD1
              clear hK1 hP1 hD1 hPc hDc hFc
              clear hk1 hz1 ht hvm
              have hP : va_P D vwCl [(m18, .inl (k 0, 250, .inl f18)), (m19, .inl (k 0, 40, .inl f19)), (m20, .inl (k 0, 120, .inl f20)), (m21, .inl (k 0, 20, .inl f21)), (mo, .inr (12, [.int v0, .ref m1, .ref m2, .ref m3, .ref m4, .ref m5, .int v6, .int o_161, .int o_162, .int o_163, .int o_164, .long o_165, .int o_166, .int o_167, .int v14, .int v15, .ref m16, .ref m17, .ref m18, .ref m19, .ref m20, .ref m21, .ref m22, .ref m23, .int v24, .ref m25, .ref m26, .ref m27, .ref m28, .ref m29, .int v30, .ref m31, .ref m32, .ref m33, .int v34, .int v35, .int v36, .ref m37, .ref m38, .ref m39, .ref m40, .long v41])), (m5, .inl (k 1, 1000, .inl f5)), (m17, .inl (k 0, 30, .inl f17))] H1 := hP
              have hD : va_D A [(m18, .inl (k 0, 250, .inl f18)), (m19, .inl (k 0, 40, .inl f19)), (m20, .inl (k 0, 120, .inl f20)), (m21, .inl (k 0, 20, .inl f21)), (mo, .inr (12, [.int v0, .ref m1, .ref m2, .ref m3, .ref m4, .ref m5, .int v6, .int o_161, .int o_162, .int o_163, .int o_164, .long o_165, .int o_166, .int o_167, .int v14, .int v15, .ref m16, .ref m17, .ref m18, .ref m19, .ref m20, .ref m21, .ref m22, .ref m23, .int v24, .ref m25, .ref m26, .ref m27, .ref m28, .ref m29, .int v30, .ref m31, .ref m32, .ref m33, .int v34, .int v35, .int v36, .ref m37, .ref m38, .ref m39, .ref m40, .long v41])), (m5, .inl (k 1, 1000, .inl f5)), (m17, .inl (k 0, 30, .inl f17))] := hD
              generalize H1 = H at hP hS ⊢
              have hw_168 : (0 ≤ r_160.toInt ∧ r_160.toInt ≤ 7) ∧ (0 ≤ o_161.toInt ∧ o_161.toInt ≤ 1000) ∧ (o_134.toInt ≤ o_161.toInt ∧ o_161.toInt ≤ v6.toInt) := hw
              obtain ⟨hw_169, hw_170, hw_171⟩ := hw_168
              clear hw
              refine va_iast hx hb hK hP hD hS 3 0 rfl rfl (z_in (by omega) (by omega)) dX12_line_175 (fun H locs hP hD hS => ?_)
              obtain ⟨g_172, eg_172⟩ : ∃ z : Nat → Int32, upd f21 x_159.toNatClampNeg r_160 = z := ⟨_, rfl⟩
              have hP : va_P D vwCl [(m18, .inl (k 0, 250, .inl f18)), (m19, .inl (k 0, 40, .inl f19)), (m20, .inl (k 0, 120, .inl f20)), (m21, .inl (k 0, 20, .inl (upd f21 x_159.toNatClampNeg r_160))), (mo, .inr (12, [.int v0, .ref m1, .ref m2, .ref m3, .ref m4, .ref m5, .int v6, .int o_161, .int o_162, .int o_163, .int o_164, .long o_165, .int o_166, .int o_167, .int v14, .int v15, .ref m16, .ref m17, .ref m18, .ref m19, .ref m20, .ref m21, .ref m22, .ref m23, .int v24, .ref m25, .ref m26, .ref m27, .ref m28, .ref m29, .int v30, .ref m31, .ref m32, .ref m33, .int v34, .int v35, .int v36, .ref m37, .ref m38, .ref m39, .ref m40, .long v41])), (m5, .inl (k 1, 1000, .inl f5)), (m17, .inl (k 0, 30, .inl f17))] H := hP
              have hD : va_D A [(m18, .inl (k 0, 250, .inl f18)), (m19, .inl (k 0, 40, .inl f19)), (m20, .inl (k 0, 120, .inl f20)), (m21, .inl (k 0, 20, .inl (upd f21 x_159.toNatClampNeg r_160))), (mo, .inr (12, [.int v0, .ref m1, .ref m2, .ref m3, .ref m4, .ref m5, .int v6, .int o_161, .int o_162, .int o_163, .int o_164, .long o_165, .int o_166, .int o_167, .int v14, .int v15, .ref m16, .ref m17, .ref m18, .ref m19, .ref m20, .ref m21, .ref m22, .ref m23, .int v24, .ref m25, .ref m26, .ref m27, .ref m28, .ref m29, .int v30, .ref m31, .ref m32, .ref m33, .int v34, .int v35, .int v36, .ref m37, .ref m38, .ref m39, .ref m40, .long v41])), (m5, .inl (k 1, 1000, .inl f5)), (m17, .inl (k 0, 30, .inl f17))] := hD
              rw [eg_172] at hP hD
              have hp_173 : PR 20 2 0 0 7 g_172 := by rw [← eg_172]; exact PR.put hp_f21_0 ⟨by omega, by omega⟩
              have hp_174 : PR 20 2 1 0 999 g_172 := by rw [← eg_172]; exact PR.other hp_f21_1 (z_clm (by omega) (by omega))
              refine lv_aload_n hx hb dX12_line_176 rfl (lv_at hl 1 rfl) ?_
              refine va_get (D := D) (ci := 12) (v := .ref m21) (C := RX12) (T := TX12) (N := 42) hx hb hts iT_X12 hown hK hP 4 rfl rfl 21 (by decide) (hts _ tw_6_74) (fun _ h9 => h9) rfl dX12_line_177 ?_
              refine lv_iload_n hx hb dX12_line_180 rfl (lv_at hl 0 rfl) ?_
              refine lv_iconst (v := 1) hx hb dX12_line_181 (by decide) ?_
              refine lv_iadd hx hb dX12_line_182 ?_
              refine lv_topi (fun x_175 ex_175 => ?_)
              have zx_175 : x_175.toInt = x_159.toInt + 1 := by rw [ex_175]; exact z_add rfl rfl (by omega) (by omega)
              refine lv_aload_n hx hb dX12_line_183 rfl (lv_at hl 1 rfl) ?_
              refine lv_ldc2 (v := 131638) hx hb hown (hts _ tw_7_78) dX12_line_184 ?_
              refine lv_iconst (v := 0) hx hb dX12_line_187 (by decide) ?_
              refine lv_sipush (v := 999) hx hb dX12_line_188 (by decide) ?_
              obtain ⟨hPc, hDc, hFc⟩ := sub3 hP hD hS hA (ws' := [(mo, .inr (12, [.int v0, .ref m1, .ref m2, .ref m3, .ref m4, .ref m5, .int v6, .int o_161, .int o_162, .int o_163, .int o_164, .long o_165, .int o_166, .int o_167, .int v14, .int v15, .ref m16, .ref m17, .ref m18, .ref m19, .ref m20, .ref m21, .ref m22, .ref m23, .int v24, .ref m25, .ref m26, .ref m27, .ref m28, .ref m29, .int v30, .ref m31, .ref m32, .ref m33, .int v34, .int v35, .int v36, .ref m37, .ref m38, .ref m39, .ref m40, .long v41])), (m5, .inl (k 1, 1000, .inl f5))]) [4, 5] (by decide +kernel) rfl
              refine va_calli (va_runV (C := RX12) (As := [.long 131638, .int 0, .int 999]) (rest := [.int x_175, .ref m21]) ⟨hx, hb, hml, hown, hts⟩ (c_X12_number_ l D k mo 131638 0 999 v0 m1 m2 m3 m4 m5 v6 o_161 o_162 o_163 o_164 o_165 o_166 o_167 v14 v15 m16 m17 m18 m19 m20 m21 m22 m23 v24 m25 m26 m27 m28 m29 v30 m31 m32 m33 v34 v35 v36 m37 m38 m39 m40 v41 f5 H.size (show 0 ≤ v6.toInt ∧ v6.toInt ≤ 1000 from by omega) (show 0 ≤ o_161.toInt ∧ o_161.toInt ≤ 1000 from by omega) (show 0 ≤ v24.toInt ∧ v24.toInt ≤ 1023 from by omega) (show o_161.toInt ≤ v6.toInt from by omega)) (cwV 3 hts (gV tw_7_29 tw_7_31 tw_p_46 tw_1_13 tw_7_32) rfl rfl rfl hdV_X12_number_ ⟨Nat.le_of_ble_eq_true rfl, Nat.le_of_ble_eq_true rfl⟩) (cz_V hK hPc hDc hN (ci := 12) (q0 := 0) rfl rfl [.long 131638, .int 0, .int 999]) rfl rfl hl.1 rfl (lv_room (Nat.le_of_ble_eq_true rfl)) dX12_line_191 ⟨Nat.le_of_ble_eq_true rfl, Nat.le_of_ble_eq_true rfl⟩) hS (fun q _ h => hFc q h) hFc (fun r_176 uZ tZ H1 locs ht hvm hw hB hz1 hk1 hS => ?_)
              obtain ⟨o_177, o_178, o_179, o_180, o_181, o_182, o_183⟩ := uZ
              obtain ⟨hP1, hK1, hD1⟩ := hB
              rw [ht] at hP1
              obtain ⟨hP, hD⟩ := va_join (wr := [(m18, .inl (k 0, 250, .inl f18)), (m19, .inl (k 0, 40, .inl f19)), (m20, .inl (k 0, 120, .inl f20)), (m21, .inl (k 0, 20, .inl g_172)), (m17, .inl (k 0, 30, .inl f17))]) (w1 := [(mo, .inr (12, [.int v0, .ref m1, .ref m2, .ref m3, .ref m4, .ref m5, .int v6, .int o_177, .int o_178, .int o_179, .int o_180, .long o_181, .int o_182, .int o_183, .int v14, .int v15, .ref m16, .ref m17, .ref m18, .ref m19, .ref m20, .ref m21, .ref m22, .ref m23, .int v24, .ref m25, .ref m26, .ref m27, .ref m28, .ref m29, .int v30, .ref m31, .ref m32, .ref m33, .int v34, .int v35, .int v36, .ref m37, .ref m38, .ref m39, .ref m40, .long v41])), (m5, .inl (k 1, 1000, .inl f5))]) hP hD [4, 5] [0, 1, 2, 3, 6] rfl rfl (by decide +kernel) (by decide +kernel) hk1 hFc hP1 hD1
              clear hK1 hP1 hD1 hPc hDc hFc
              clear hk1 hz1 ht hvm
              have hP : va_P D vwCl [(m18, .inl (k 0, 250, .inl f18)), (m19, .inl (k 0, 40, .inl f19)), (m20, .inl (k 0, 120, .inl f20)), (m21, .inl (k 0, 20, .inl g_172)), (m17, .inl (k 0, 30, .inl f17)), (mo, .inr (12, [.int v0, .ref m1, .ref m2, .ref m3, .ref m4, .ref m5, .int v6, .int o_177, .int o_178, .int o_179, .int o_180, .long o_181, .int o_182, .int o_183, .int v14, .int v15, .ref m16, .ref m17, .ref m18, .ref m19, .ref m20, .ref m21, .ref m22, .ref m23, .int v24, .ref m25, .ref m26, .ref m27, .ref m28, .ref m29, .int v30, .ref m31, .ref m32, .ref m33, .int v34, .int v35, .int v36, .ref m37, .ref m38, .ref m39, .ref m40, .long v41])), (m5, .inl (k 1, 1000, .inl f5))] H1 := hP
              have hD : va_D A [(m18, .inl (k 0, 250, .inl f18)), (m19, .inl (k 0, 40, .inl f19)), (m20, .inl (k 0, 120, .inl f20)), (m21, .inl (k 0, 20, .inl g_172)), (m17, .inl (k 0, 30, .inl f17)), (mo, .inr (12, [.int v0, .ref m1, .ref m2, .ref m3, .ref m4, .ref m5, .int v6, .int o_177, .int o_178, .int o_179, .int o_180, .long o_181, .int o_182, .int o_183, .int v14, .int v15, .ref m16, .ref m17, .ref m18, .ref m19, .ref m20, .ref m21, .ref m22, .ref m23, .int v24, .ref m25, .ref m26, .ref m27, .ref m28, .ref m29, .int v30, .ref m31, .ref m32, .ref m33, .int v34, .int v35, .int v36, .ref m37, .ref m38, .ref m39, .ref m40, .long v41])), (m5, .inl (k 1, 1000, .inl f5))] := hD
              generalize H1 = H at hP hS ⊢
              have hw_184 : (0 ≤ o_177.toInt ∧ o_177.toInt ≤ 1000) ∧ (o_161.toInt ≤ o_177.toInt ∧ o_177.toInt ≤ v6.toInt) ∧ (r_176.toInt = 0 ∨ (0 ≤ r_176.toInt ∧ r_176.toInt ≤ 999)) := hw
              obtain ⟨hw_185, hw_186, hw_187⟩ := hw_184
              clear hw
              refine va_iast hx hb hK hP hD hS 3 0 rfl rfl (z_in (by omega) (by omega)) dX12_line_194 (fun H locs hP hD hS => ?_)
              obtain ⟨g_188, eg_188⟩ : ∃ z : Nat → Int32, upd g_172 x_175.toNatClampNeg r_176 = z := ⟨_, rfl⟩
              have hP : va_P D vwCl [(m18, .inl (k 0, 250, .inl f18)), (m19, .inl (k 0, 40, .inl f19)), (m20, .inl (k 0, 120, .inl f20)), (m21, .inl (k 0, 20, .inl (upd g_172 x_175.toNatClampNeg r_176))), (m17, .inl (k 0, 30, .inl f17)), (mo, .inr (12, [.int v0, .ref m1, .ref m2, .ref m3, .ref m4, .ref m5, .int v6, .int o_177, .int o_178, .int o_179, .int o_180, .long o_181, .int o_182, .int o_183, .int v14, .int v15, .ref m16, .ref m17, .ref m18, .ref m19, .ref m20, .ref m21, .ref m22, .ref m23, .int v24, .ref m25, .ref m26, .ref m27, .ref m28, .ref m29, .int v30, .ref m31, .ref m32, .ref m33, .int v34, .int v35, .int v36, .ref m37, .ref m38, .ref m39, .ref m40, .long v41])), (m5, .inl (k 1, 1000, .inl f5))] H := hP
              have hD : va_D A [(m18, .inl (k 0, 250, .inl f18)), (m19, .inl (k 0, 40, .inl f19)), (m20, .inl (k 0, 120, .inl f20)), (m21, .inl (k 0, 20, .inl (upd g_172 x_175.toNatClampNeg r_176))), (m17, .inl (k 0, 30, .inl f17)), (mo, .inr (12, [.int v0, .ref m1, .ref m2, .ref m3, .ref m4, .ref m5, .int v6, .int o_177, .int o_178, .int o_179, .int o_180, .long o_181, .int o_182, .int o_183, .int v14, .int v15, .ref m16, .ref m17, .ref m18, .ref m19, .ref m20, .ref m21, .ref m22, .ref m23, .int v24, .ref m25, .ref m26, .ref m27, .ref m28, .ref m29, .int v30, .ref m31, .ref m32, .ref m33, .int v34, .int v35, .int v36, .ref m37, .ref m38, .ref m39, .ref m40, .long v41])), (m5, .inl (k 1, 1000, .inl f5))] := hD
              rw [eg_188] at hP hD
              have hp_189 : PR 20 2 0 0 7 g_188 := by rw [← eg_188]; exact PR.other hp_173 (z_clm (by omega) (by omega))
              have hp_190 : PR 20 2 1 0 999 g_188 := by rw [← eg_188]; exact PR.put hp_174 ⟨by omega, by omega⟩
              refine lv_aload_n hx hb dX12_line_195 rfl (lv_at hl 1 rfl) ?_
              refine lv_iconst (v := 4) hx hb dX12_line_196 (by decide) ?_
              refine lv_aload_n hx hb dX12_line_197 rfl (lv_at hl 1 rfl) ?_
              refine lv_iconst (v := 4) hx hb dX12_line_198 (by decide) ?_
              obtain ⟨hPc, hDc, hFc⟩ := sub3 hP hD hS hA (ws' := [(mo, .inr (12, [.int v0, .ref m1, .ref m2, .ref m3, .ref m4, .ref m5, .int v6, .int o_177, .int o_178, .int o_179, .int o_180, .long o_181, .int o_182, .int o_183, .int v14, .int v15, .ref m16, .ref m17, .ref m18, .ref m19, .ref m20, .ref m21, .ref m22, .ref m23, .int v24, .ref m25, .ref m26, .ref m27, .ref m28, .ref m29, .int v30, .ref m31, .ref m32, .ref m33, .int v34, .int v35, .int v36, .ref m37, .ref m38, .ref m39, .ref m40, .long v41])), (m17, .inl (k 0, 30, .inl f17))]) [5, 4] (by decide +kernel) rfl
              refine va_calli (va_runV (C := RX12) (As := [.int 4]) (rest := [.int 4, .ref mo]) ⟨hx, hb, hml, hown, hts⟩ (c_X12_hasRead_4 l D k mo v0 m1 m2 m3 m4 m5 v6 o_177 o_178 o_179 o_180 o_181 o_182 o_183 v14 v15 m16 m17 m18 m19 m20 m21 m22 m23 v24 m25 m26 m27 m28 m29 v30 m31 m32 m33 v34 v35 v36 m37 m38 m39 m40 v41 f17 H.size (show 0 ≤ v6.toInt ∧ v6.toInt ≤ 1000 from by omega) (show 0 ≤ v24.toInt ∧ v24.toInt ≤ 1023 from by omega) hp_f17_0 hp_f17_1 hp_f17_2 hp_f17_3 hp_f17_4 hp_f17_5) (cwV 1 hts (gV tw_7_46 tw_7_48 tw_p_50 tw_1_13 tw_7_49) rfl rfl rfl hdV_X12_hasRead ⟨Nat.le_of_ble_eq_true rfl, Nat.le_of_ble_eq_true rfl⟩) (cz_V hK hPc hDc hN (ci := 12) (q0 := 0) rfl rfl [.int 4]) rfl rfl hl.1 rfl (lv_room (Nat.le_of_ble_eq_true rfl)) dX12_line_199 ⟨Nat.le_of_ble_eq_true rfl, Nat.le_of_ble_eq_true rfl⟩) hS (fun q _ h => hFc q h) hFc (fun r_191 uZ tZ H1 locs ht hvm hw hB hz1 hk1 hS => ?_)
              obtain ⟨hP1, hK1, hD1⟩ := hB
              rw [ht] at hP1
              obtain ⟨hP, hD⟩ := va_join (wr := [(m18, .inl (k 0, 250, .inl f18)), (m19, .inl (k 0, 40, .inl f19)), (m20, .inl (k 0, 120, .inl f20)), (m21, .inl (k 0, 20, .inl g_188)), (m5, .inl (k 1, 1000, .inl f5))]) (w1 := [(mo, .inr (12, [.int v0, .ref m1, .ref m2, .ref m3, .ref m4, .ref m5, .int v6, .int o_177, .int o_178, .int o_179, .int o_180, .long o_181, .int o_182, .int o_183, .int v14, .int v15, .ref m16, .ref m17, .ref m18, .ref m19, .ref m20, .ref m21, .ref m22, .ref m23, .int v24, .ref m25, .ref m26, .ref m27, .ref m28, .ref m29, .int v30, .ref m31, .ref m32, .ref m33, .int v34, .int v35, .int v36, .ref m37, .ref m38, .ref m39, .ref m40, .long v41])), (m17, .inl (k 0, 30, .inl f17))]) hP hD [5, 4] [0, 1, 2, 3, 6] rfl rfl (by decide +kernel) (by decide +kernel) hk1 hFc hP1 hD1
              clear hK1 hP1 hD1 hPc hDc hFc
              clear hk1 hz1 ht hvm
              have hP : va_P D vwCl [(m18, .inl (k 0, 250, .inl f18)), (m19, .inl (k 0, 40, .inl f19)), (m20, .inl (k 0, 120, .inl f20)), (m21, .inl (k 0, 20, .inl g_188)), (m5, .inl (k 1, 1000, .inl f5)), (mo, .inr (12, [.int v0, .ref m1, .ref m2, .ref m3, .ref m4, .ref m5, .int v6, .int o_177, .int o_178, .int o_179, .int o_180, .long o_181, .int o_182, .int o_183, .int v14, .int v15, .ref m16, .ref m17, .ref m18, .ref m19, .ref m20, .ref m21, .ref m22, .ref m23, .int v24, .ref m25, .ref m26, .ref m27, .ref m28, .ref m29, .int v30, .ref m31, .ref m32, .ref m33, .int v34, .int v35, .int v36, .ref m37, .ref m38, .ref m39, .ref m40, .long v41])), (m17, .inl (k 0, 30, .inl f17))] H1 := hP
              have hD : va_D A [(m18, .inl (k 0, 250, .inl f18)), (m19, .inl (k 0, 40, .inl f19)), (m20, .inl (k 0, 120, .inl f20)), (m21, .inl (k 0, 20, .inl g_188)), (m5, .inl (k 1, 1000, .inl f5)), (mo, .inr (12, [.int v0, .ref m1, .ref m2, .ref m3, .ref m4, .ref m5, .int v6, .int o_177, .int o_178, .int o_179, .int o_180, .long o_181, .int o_182, .int o_183, .int v14, .int v15, .ref m16, .ref m17, .ref m18, .ref m19, .ref m20, .ref m21, .ref m22, .ref m23, .int v24, .ref m25, .ref m26, .ref m27, .ref m28, .ref m29, .int v30, .ref m31, .ref m32, .ref m33, .int v34, .int v35, .int v36, .ref m37, .ref m38, .ref m39, .ref m40, .long v41])), (m17, .inl (k 0, 30, .inl f17))] := hD
              generalize H1 = H at hP hS ⊢
              have hw_192 : (0 ≤ r_191.toInt ∧ r_191.toInt ≤ 2) ∧ (r_191 = f17 28) := hw
              obtain ⟨hw_193, hw_194⟩ := hw_192
              clear hw
              obtain rfl : r_154 = r_191 := hw_157.trans hw_194.symm
              refine lv_iconst (v := 1) hx hb dX12_line_202 (by decide) ?_
              refine lv_iadd hx hb dX12_line_203 ?_
              refine lv_topi (fun x_195 ex_195 => ?_)
              have zx_195 : x_195.toInt = r_154.toInt + 1 := by rw [ex_195]; exact z_add rfl rfl (by omega) (by omega)
              obtain ⟨hPc, hDc, hFc⟩ := sub3 hP hD hS hA (ws' := [(mo, .inr (12, [.int v0, .ref m1, .ref m2, .ref m3, .ref m4, .ref m5, .int v6, .int o_177, .int o_178, .int o_179, .int o_180, .long o_181, .int o_182, .int o_183, .int v14, .int v15, .ref m16, .ref m17, .ref m18, .ref m19, .ref m20, .ref m21, .ref m22, .ref m23, .int v24, .ref m25, .ref m26, .ref m27, .ref m28, .ref m29, .int v30, .ref m31, .ref m32, .ref m33, .int v34, .int v35, .int v36, .ref m37, .ref m38, .ref m39, .ref m40, .long v41])), (m17, .inl (k 0, 30, .inl f17))]) [5, 6] (by decide +kernel) rfl
              refine va_callv (va_runV (C := RX12) (As := [.int 4, .int x_195]) (rest := []) ⟨hx, hb, hml, hown, hts⟩ (c_X12_tells_5 l D k mo x_195 v0 m1 m2 m3 m4 m5 v6 o_177 o_178 o_179 o_180 o_181 o_182 o_183 v14 v15 m16 m17 m18 m19 m20 m21 m22 m23 v24 m25 m26 m27 m28 m29 v30 m31 m32 m33 v34 v35 v36 m37 m38 m39 m40 v41 f17 H.size (show 0 ≤ x_195.toInt ∧ x_195.toInt ≤ 2 from by omega) (show 0 ≤ v6.toInt ∧ v6.toInt ≤ 1000 from by omega) (show 0 ≤ v24.toInt ∧ v24.toInt ≤ 1023 from by omega) hp_f17_0 hp_f17_1 hp_f17_2 hp_f17_3 hp_f17_4 hp_f17_5) (cwV 2 hts (gV tw_6_226 tw_6_228 tw_p_37 tw_1_13 tw_6_229) rfl rfl rfl hdV_X12_tells ⟨Nat.le_of_ble_eq_true rfl, Nat.le_of_ble_eq_true rfl⟩) (cz_V hK hPc hDc hN (ci := 12) (q0 := 0) rfl rfl [.int 4, .int x_195]) rfl rfl hl.1 rfl (lv_room (Nat.le_of_ble_eq_true rfl)) dX12_line_204 ⟨Nat.le_of_ble_eq_true rfl, Nat.le_of_ble_eq_true rfl⟩) hS (fun q _ h => hFc q h) hFc (fun uZ tZ H1 locs ht hvm hw hB hz1 hk1 hS => ?_)
              obtain ⟨o_197, rfl⟩ : ∃ z, z = uZ := ⟨_, rfl⟩
              obtain ⟨hP1, hK1, hD1⟩ := hB
              rw [ht] at hP1
              obtain ⟨hP, hD⟩ := va_join (wr := [(m18, .inl (k 0, 250, .inl f18)), (m19, .inl (k 0, 40, .inl f19)), (m20, .inl (k 0, 120, .inl f20)), (m21, .inl (k 0, 20, .inl g_188)), (m5, .inl (k 1, 1000, .inl f5))]) (w1 := [(mo, .inr (12, [.int v0, .ref m1, .ref m2, .ref m3, .ref m4, .ref m5, .int v6, .int o_177, .int o_178, .int o_179, .int o_180, .long o_181, .int o_182, .int o_183, .int v14, .int v15, .ref m16, .ref m17, .ref m18, .ref m19, .ref m20, .ref m21, .ref m22, .ref m23, .int v24, .ref m25, .ref m26, .ref m27, .ref m28, .ref m29, .int v30, .ref m31, .ref m32, .ref m33, .int v34, .int v35, .int v36, .ref m37, .ref m38, .ref m39, .ref m40, .long v41])), (m17, .inl (k 0, 30, .inl o_197))]) hP hD [5, 6] [0, 1, 2, 3, 4] rfl rfl (by decide +kernel) (by decide +kernel) hk1 hFc hP1 hD1
              clear hK1 hP1 hD1 hPc hDc hFc
              clear hk1 hz1 ht hvm
              have hP : va_P D vwCl [(m18, .inl (k 0, 250, .inl f18)), (m19, .inl (k 0, 40, .inl f19)), (m20, .inl (k 0, 120, .inl f20)), (m21, .inl (k 0, 20, .inl g_188)), (m5, .inl (k 1, 1000, .inl f5)), (mo, .inr (12, [.int v0, .ref m1, .ref m2, .ref m3, .ref m4, .ref m5, .int v6, .int o_177, .int o_178, .int o_179, .int o_180, .long o_181, .int o_182, .int o_183, .int v14, .int v15, .ref m16, .ref m17, .ref m18, .ref m19, .ref m20, .ref m21, .ref m22, .ref m23, .int v24, .ref m25, .ref m26, .ref m27, .ref m28, .ref m29, .int v30, .ref m31, .ref m32, .ref m33, .int v34, .int v35, .int v36, .ref m37, .ref m38, .ref m39, .ref m40, .long v41])), (m17, .inl (k 0, 30, .inl o_197))] H1 := hP
              have hD : va_D A [(m18, .inl (k 0, 250, .inl f18)), (m19, .inl (k 0, 40, .inl f19)), (m20, .inl (k 0, 120, .inl f20)), (m21, .inl (k 0, 20, .inl g_188)), (m5, .inl (k 1, 1000, .inl f5)), (mo, .inr (12, [.int v0, .ref m1, .ref m2, .ref m3, .ref m4, .ref m5, .int v6, .int o_177, .int o_178, .int o_179, .int o_180, .long o_181, .int o_182, .int o_183, .int v14, .int v15, .ref m16, .ref m17, .ref m18, .ref m19, .ref m20, .ref m21, .ref m22, .ref m23, .int v24, .ref m25, .ref m26, .ref m27, .ref m28, .ref m29, .int v30, .ref m31, .ref m32, .ref m33, .int v34, .int v35, .int v36, .ref m37, .ref m38, .ref m39, .ref m40, .long v41])), (m17, .inl (k 0, 30, .inl o_197))] := hD
              generalize H1 = H at hP hS ⊢
              have hw_198 : (PR 30 6 0 0 8 o_197) ∧ (PR 30 6 1 0 10 o_197) ∧ (PR 30 6 2 0 4 o_197) ∧ (PR 30 6 3 0 6 o_197) ∧ (PR 30 6 4 0 2 o_197) ∧ (PR 30 6 5 0 40 o_197) ∧ (o_197 = upd f17 28 x_195) := hw
              obtain ⟨hw_199, hw_200, hw_201, hw_202, hw_203, hw_204, hw_205⟩ := hw_198
              clear hw
              have tk_206 : TK o_197 f18 := by rw [hw_205]; exact TK.other hTK (by decide)
              refine lv_goto (tgt := 222) hx hb dX12_line_207 (by decide) ?_
              obtain ⟨hP9, hD9⟩ := sub2 hP hD (ws' := [(mo, .inr (12, [.int v0, .ref m1, .ref m2, .ref m3, .ref m4, .ref m5, .int v6, .int o_177, .int o_178, .int o_179, .int o_180, .long o_181, .int o_182, .int o_183, .int v14, .int v15, .ref m16, .ref m17, .ref m18, .ref m19, .ref m20, .ref m21, .ref m22, .ref m23, .int v24, .ref m25, .ref m26, .ref m27, .ref m28, .ref m29, .int v30, .ref m31, .ref m32, .ref m33, .int v34, .int v35, .int v36, .ref m37, .ref m38, .ref m39, .ref m40, .long v41])), (m5, .inl (k 1, 1000, .inl f5)), (m17, .inl (k 0, 30, .inl o_197)), (m18, .inl (k 0, 250, .inl f18)), (m19, .inl (k 0, 40, .inl f19)), (m20, .inl (k 0, 120, .inl f20)), (m21, .inl (k 0, 20, .inl g_188))]) [5, 4, 6, 0, 1, 2, 3] (by decide +kernel) rfl
              exact W.vret hx hb hr (fun tZ ht hW => ⟨⟨(o_177, o_178, o_179, o_180, o_181, o_182, o_183, o_197, g_188, f20, f19, f18), rfl, ⟨(show 0 ≤ o_177.toInt ∧ o_177.toInt ≤ 1000 from by omega), hw_199, hw_200, hw_201, hw_202, hw_203, hw_204, hp_189, hp_190, hp_f20_0, hp_f19_0, hp_f19_1, hp_f18_0, hp_f18_1, hp_f18_2, hp_f18_3, (show v7.toInt ≤ o_177.toInt ∧ o_177.toInt ≤ v6.toInt from by omega), tk_206⟩, by rw [ht]; exact hP9, va_K.moved hW.alike hK, hD9⟩, hS.F ht⟩) hS.2.2 dX12_line_222
        · skip
          have zh_122 : ¬ r_108.toInt = 0 := z_ne h_122
          refine lv_aload_n hx hb dX12_line_125 rfl (lv_at hl 0 rfl) ?_
          obtain ⟨hPc, hDc, hFc⟩ := sub3 hP hD hS hA (ws' := [(mo, .inr (12, [.int v0, .ref m1, .ref m2, .ref m3, .ref m4, .ref m5, .int v6, .int o_109, .int o_110, .int o_111, .int o_112, .long o_113, .int o_114, .int o_115, .int v14, .int v15, .ref m16, .ref m17, .ref m18, .ref m19, .ref m20, .ref m21, .ref m22, .ref m23, .int v24, .ref m25, .ref m26, .ref m27, .ref m28, .ref m29, .int v30, .ref m31, .ref m32, .ref m33, .int v34, .int v35, .int v36, .ref m37, .ref m38, .ref m39, .ref m40, .long v41])), (m5, .inl (k 1, 1000, .inl f5)), (m17, .inl (k 0, 30, .inl f17)), (m18, .inl (k 0, 250, .inl f18)), (m20, .inl (k 0, 120, .inl f20))]) [4, 5, 6, 0, 2] (by decide +kernel) rfl
          refine va_callv (va_runV (C := RX12) (As := []) (rest := []) ⟨hx, hb, hml, hown, hts⟩ (c_X12_houseLine l D k mo v0 m1 m2 m3 m4 m5 v6 o_109 o_110 o_111 o_112 o_113 o_114 o_115 v14 v15 m16 m17 m18 m19 m20 m21 m22 m23 v24 m25 m26 m27 m28 m29 v30 m31 m32 m33 v34 v35 v36 m37 m38 m39 m40 v41 f5 f17 f18 f20 H.size (show 0 ≤ v6.toInt ∧ v6.toInt ≤ 1000 from by omega) (show 0 ≤ o_109.toInt ∧ o_109.toInt ≤ 1000 from by omega) (show 0 ≤ v24.toInt ∧ v24.toInt ≤ 1023 from by omega) hp_f17_0 hp_f17_1 hp_f17_2 hp_f17_3 hp_f17_4 hp_f17_5 hp_f18_0 hp_f18_1 hp_f18_2 hp_f18_3 hp_f20_0 (show o_109.toInt ≤ v6.toInt from by omega) (show (f17 27).toInt ≤ 5 from by omega) hTK) (cwV 0 hts (gV tw_7_70 tw_7_72 tw_p_54 tw_1_13 tw_7_73) rfl rfl rfl hdV_X12_houseLine ⟨Nat.le_of_ble_eq_true rfl, Nat.le_of_ble_eq_true rfl⟩) (cz_V hK hPc hDc hN (ci := 12) (q0 := 0) rfl rfl []) rfl rfl hl.1 rfl (lv_room (Nat.le_of_ble_eq_true rfl)) dX12_line_126 ⟨Nat.le_of_ble_eq_true rfl, Nat.le_of_ble_eq_true rfl⟩) hS (fun q _ h => hFc q h) hFc (fun uZ tZ H1 locs ht hvm hw hB hz1 hk1 hS => ?_)
          obtain ⟨o_208, o_209, o_210, o_211, o_212, o_213, o_214, o_215, o_216⟩ := uZ
          obtain ⟨hP1, hK1, hD1⟩ := hB
          rw [ht] at hP1
          obtain ⟨hP, hD⟩ := va_join (wr := [(m19, .inl (k 0, 40, .inl f19)), (m21, .inl (k 0, 20, .inl f21))]) (w1 := [(mo, .inr (12, [.int v0, .ref m1, .ref m2, .ref m3, .ref m4, .ref m5, .int v6, .int o_208, .int o_209, .int o_210, .int o_211, .long o_212, .int o_213, .int o_214, .int v14, .int v15, .ref m16, .ref m17, .ref m18, .ref m19, .ref m20, .ref m21, .ref m22, .ref m23, .int v24, .ref m25, .ref m26, .ref m27, .ref m28, .ref m29, .int v30, .ref m31, .ref m32, .ref m33, .int v34, .int v35, .int v36, .ref m37, .ref m38, .ref m39, .ref m40, .long v41])), (m5, .inl (k 1, 1000, .inl f5)), (m17, .inl (k 0, 30, .inl o_215)), (m18, .inl (k 0, 250, .inl f18)), (m20, .inl (k 0, 120, .inl o_216))]) hP hD [4, 5, 6, 0, 2] [1, 3] rfl rfl (by decide +kernel) (by decide +kernel) hk1 hFc hP1 hD1
          clear hK1 hP1 hD1 hPc hDc hFc
          clear hk1 hz1 ht hvm
          have hP : va_P D vwCl [(m19, .inl (k 0, 40, .inl f19)), (m21, .inl (k 0, 20, .inl f21)), (mo, .inr (12, [.int v0, .ref m1, .ref m2, .ref m3, .ref m4, .ref m5, .int v6, .int o_208, .int o_209, .int o_210, .int o_211, .long o_212, .int o_213, .int o_214, .int v14, .int v15, .ref m16, .ref m17, .ref m18, .ref m19, .ref m20, .ref m21, .ref m22, .ref m23, .int v24, .ref m25, .ref m26, .ref m27, .ref m28, .ref m29, .int v30, .ref m31, .ref m32, .ref m33, .int v34, .int v35, .int v36, .ref m37, .ref m38, .ref m39, .ref m40, .long v41])), (m5, .inl (k 1, 1000, .inl f5)), (m17, .inl (k 0, 30, .inl o_215)), (m18, .inl (k 0, 250, .inl f18)), (m20, .inl (k 0, 120, .inl o_216))] H1 := hP
          have hD : va_D A [(m19, .inl (k 0, 40, .inl f19)), (m21, .inl (k 0, 20, .inl f21)), (mo, .inr (12, [.int v0, .ref m1, .ref m2, .ref m3, .ref m4, .ref m5, .int v6, .int o_208, .int o_209, .int o_210, .int o_211, .long o_212, .int o_213, .int o_214, .int v14, .int v15, .ref m16, .ref m17, .ref m18, .ref m19, .ref m20, .ref m21, .ref m22, .ref m23, .int v24, .ref m25, .ref m26, .ref m27, .ref m28, .ref m29, .int v30, .ref m31, .ref m32, .ref m33, .int v34, .int v35, .int v36, .ref m37, .ref m38, .ref m39, .ref m40, .long v41])), (m5, .inl (k 1, 1000, .inl f5)), (m17, .inl (k 0, 30, .inl o_215)), (m18, .inl (k 0, 250, .inl f18)), (m20, .inl (k 0, 120, .inl o_216))] := hD
          generalize H1 = H at hP hS ⊢
          have hw_217 : (0 ≤ o_208.toInt ∧ o_208.toInt ≤ 1000) ∧ (PR 30 6 0 0 8 o_215) ∧ (PR 30 6 1 0 10 o_215) ∧ (PR 30 6 2 0 4 o_215) ∧ (PR 30 6 3 0 6 o_215) ∧ (PR 30 6 4 0 2 o_215) ∧ (PR 30 6 5 0 40 o_215) ∧ (PR 120 4 0 0 7 o_216) ∧ (o_109.toInt ≤ o_208.toInt ∧ o_208.toInt ≤ v6.toInt) ∧ (TK o_215 f18) := hw
          obtain ⟨hw_218, hw_219, hw_220, hw_221, hw_222, hw_223, hw_224, hw_225, hw_226, hw_227⟩ := hw_217
          clear hw
          refine lv_goto (tgt := 222) hx hb dX12_line_129 (by decide) ?_
          obtain ⟨hP9, hD9⟩ := sub2 hP hD (ws' := [(mo, .inr (12, [.int v0, .ref m1, .ref m2, .ref m3, .ref m4, .ref m5, .int v6, .int o_208, .int o_209, .int o_210, .int o_211, .long o_212, .int o_213, .int o_214, .int v14, .int v15, .ref m16, .ref m17, .ref m18, .ref m19, .ref m20, .ref m21, .ref m22, .ref m23, .int v24, .ref m25, .ref m26, .ref m27, .ref m28, .ref m29, .int v30, .ref m31, .ref m32, .ref m33, .int v34, .int v35, .int v36, .ref m37, .ref m38, .ref m39, .ref m40, .long v41])), (m5, .inl (k 1, 1000, .inl f5)), (m17, .inl (k 0, 30, .inl o_215)), (m18, .inl (k 0, 250, .inl f18)), (m19, .inl (k 0, 40, .inl f19)), (m20, .inl (k 0, 120, .inl o_216)), (m21, .inl (k 0, 20, .inl f21))]) [2, 3, 4, 5, 0, 6, 1] (by decide +kernel) rfl
          exact W.vret hx hb hr (fun tZ ht hW => ⟨⟨(o_208, o_209, o_210, o_211, o_212, o_213, o_214, o_215, f21, o_216, f19, f18), rfl, ⟨(show 0 ≤ o_208.toInt ∧ o_208.toInt ≤ 1000 from by omega), hw_219, hw_220, hw_221, hw_222, hw_223, hw_224, hp_f21_0, hp_f21_1, hw_225, hp_f19_0, hp_f19_1, hp_f18_0, hp_f18_1, hp_f18_2, hp_f18_3, (show v7.toInt ≤ o_208.toInt ∧ o_208.toInt ≤ v6.toInt from by omega), hw_227⟩, by rw [ht]; exact hP9, va_K.moved hW.alike hK, hD9⟩, hS.F ht⟩) hS.2.2 dX12_line_222
    · skip
      have zh_19 : o_10.toInt = 0 := z_eq h_19
      refine lv_aload_n hx hb dX12_line_31 rfl (lv_at hl 0 rfl) ?_
      refine lv_aload_n hx hb dX12_line_32 rfl (lv_at hl 0 rfl) ?_
      refine lv_ldc2 (v := 139055) hx hb hown (hts _ tw_7_62) dX12_line_33 ?_
      obtain ⟨hPc, hDc, hFc⟩ := sub3 hP hD hS hA (ws' := [(mo, .inr (12, [.int v0, .ref m1, .ref m2, .ref m3, .ref m4, .ref m5, .int v6, .int o_5, .int o_6, .int o_7, .int o_8, .long o_9, .int o_10, .int o_11, .int v14, .int v15, .ref m16, .ref m17, .ref m18, .ref m19, .ref m20, .ref m21, .ref m22, .ref m23, .int v24, .ref m25, .ref m26, .ref m27, .ref m28, .ref m29, .int v30, .ref m31, .ref m32, .ref m33, .int v34, .int v35, .int v36, .ref m37, .ref m38, .ref m39, .ref m40, .long v41]))]) [4] (by decide +kernel) rfl
      refine va_calli (va_runV (C := RX12) (As := [.long 139055]) (rest := [.ref mo]) ⟨hx, hb, hml, hown, hts⟩ (c_X12_is l D k mo 139055 v0 m1 m2 m3 m4 m5 v6 o_5 o_6 o_7 o_8 o_9 o_10 o_11 v14 v15 m16 m17 m18 m19 m20 m21 m22 m23 v24 m25 m26 m27 m28 m29 v30 m31 m32 m33 v34 v35 v36 m37 m38 m39 m40 v41 H.size (show 0 ≤ v6.toInt ∧ v6.toInt ≤ 1000 from by omega) (show 0 ≤ v24.toInt ∧ v24.toInt ≤ 1023 from by omega)) (cwV 1 hts (gV tw_7_20 tw_7_22 tw_p_44 tw_1_13 tw_7_23) rfl rfl rfl hdV_X12_is ⟨Nat.le_of_ble_eq_true rfl, Nat.le_of_ble_eq_true rfl⟩) (cz_V hK hPc hDc hN (ci := 12) (q0 := 0) rfl rfl [.long 139055]) rfl rfl hl.1 rfl (lv_room (Nat.le_of_ble_eq_true rfl)) dX12_line_36 ⟨Nat.le_of_ble_eq_true rfl, Nat.le_of_ble_eq_true rfl⟩) hS (fun q _ h => hFc q h) hFc (fun r_228 uZ tZ H1 locs ht hvm hw hB hz1 hk1 hS => ?_)
      obtain ⟨hP1, hK1, hD1⟩ := hB
      rw [ht] at hP1
      obtain ⟨hP, hD⟩ := va_join (wr := [(m18, .inl (k 0, 250, .inl f18)), (m19, .inl (k 0, 40, .inl f19)), (m20, .inl (k 0, 120, .inl f20)), (m21, .inl (k 0, 20, .inl f21)), (m5, .inl (k 1, 1000, .inl f5)), (m17, .inl (k 0, 30, .inl f17))]) (w1 := [(mo, .inr (12, [.int v0, .ref m1, .ref m2, .ref m3, .ref m4, .ref m5, .int v6, .int o_5, .int o_6, .int o_7, .int o_8, .long o_9, .int o_10, .int o_11, .int v14, .int v15, .ref m16, .ref m17, .ref m18, .ref m19, .ref m20, .ref m21, .ref m22, .ref m23, .int v24, .ref m25, .ref m26, .ref m27, .ref m28, .ref m29, .int v30, .ref m31, .ref m32, .ref m33, .int v34, .int v35, .int v36, .ref m37, .ref m38, .ref m39, .ref m40, .long v41]))]) hP hD [4] [0, 1, 2, 3, 5, 6] rfl rfl (by decide +kernel) (by decide +kernel) hk1 hFc hP1 hD1
      clear hK1 hP1 hD1 hPc hDc hFc
      clear hk1 hz1 ht hvm
      have hP : va_P D vwCl [(m18, .inl (k 0, 250, .inl f18)), (m19, .inl (k 0, 40, .inl f19)), (m20, .inl (k 0, 120, .inl f20)), (m21, .inl (k 0, 20, .inl f21)), (m5, .inl (k 1, 1000, .inl f5)), (m17, .inl (k 0, 30, .inl f17)), (mo, .inr (12, [.int v0, .ref m1, .ref m2, .ref m3, .ref m4, .ref m5, .int v6, .int o_5, .int o_6, .int o_7, .int o_8, .long o_9, .int o_10, .int o_11, .int v14, .int v15, .ref m16, .ref m17, .ref m18, .ref m19, .ref m20, .ref m21, .ref m22, .ref m23, .int v24, .ref m25, .ref m26, .ref m27, .ref m28, .ref m29, .int v30, .ref m31, .ref m32, .ref m33, .int v34, .int v35, .int v36, .ref m37, .ref m38, .ref m39, .ref m40, .long v41]))] H1 := hP
      have hD : va_D A [(m18, .inl (k 0, 250, .inl f18)), (m19, .inl (k 0, 40, .inl f19)), (m20, .inl (k 0, 120, .inl f20)), (m21, .inl (k 0, 20, .inl f21)), (m5, .inl (k 1, 1000, .inl f5)), (m17, .inl (k 0, 30, .inl f17)), (mo, .inr (12, [.int v0, .ref m1, .ref m2, .ref m3, .ref m4, .ref m5, .int v6, .int o_5, .int o_6, .int o_7, .int o_8, .long o_9, .int o_10, .int o_11, .int v14, .int v15, .ref m16, .ref m17, .ref m18, .ref m19, .ref m20, .ref m21, .ref m22, .ref m23, .int v24, .ref m25, .ref m26, .ref m27, .ref m28, .ref m29, .int v30, .ref m31, .ref m32, .ref m33, .int v34, .int v35, .int v36, .ref m37, .ref m38, .ref m39, .ref m40, .long v41]))] := hD
      generalize H1 = H at hP hS ⊢
      have hw_229 : (0 ≤ r_228.toInt ∧ r_228.toInt ≤ 1) := hw
      have hw_230 := hw_229
      clear hw
      refine lv_iconst (v := 2) hx hb dX12_line_39 (by decide) ?_
      refine lv_iconst (v := 4) hx hb dX12_line_40 (by decide) ?_
      obtain ⟨hPc, hDc, hFc⟩ := sub3 hP hD hS hA (ws' := [(mo, .inr (12, [.int v0, .ref m1, .ref m2, .ref m3, .ref m4, .ref m5, .int v6, .int o_5, .int o_6, .int o_7, .int o_8, .long o_9, .int o_10, .int o_11, .int v14, .int v15, .ref m16, .ref m17, .ref m18, .ref m19, .ref m20, .ref m21, .ref m22, .ref m23, .int v24, .ref m25, .ref m26, .ref m27, .ref m28, .ref m29, .int v30, .ref m31, .ref m32, .ref m33, .int v34, .int v35, .int v36, .ref m37, .ref m38, .ref m39, .ref m40, .long v41])), (m5, .inl (k 1, 1000, .inl f5)), (m17, .inl (k 0, 30, .inl f17))]) [6, 4, 5] (by decide +kernel) rfl
      refine va_calli (va_runV (C := RX12) (As := [.int r_228, .int 2, .int 4]) (rest := []) ⟨hx, hb, hml, hown, hts⟩ (c_X12_isRoom_1 l D k mo r_228 v0 m1 m2 m3 m4 m5 v6 o_5 o_6 o_7 o_8 o_9 o_10 o_11 v14 v15 m16 m17 m18 m19 m20 m21 m22 m23 v24 m25 m26 m27 m28 m29 v30 m31 m32 m33 v34 v35 v36 m37 m38 m39 m40 v41 f5 f17 H.size (show 0 ≤ r_228.toInt ∧ r_228.toInt ≤ 1 from by omega) (show 0 ≤ v6.toInt ∧ v6.toInt ≤ 1000 from by omega) (show 0 ≤ o_5.toInt ∧ o_5.toInt ≤ 1000 from by omega) (show 0 ≤ v24.toInt ∧ v24.toInt ≤ 1023 from by omega) hp_f17_0 hp_f17_1 hp_f17_2 hp_f17_3 hp_f17_4 hp_f17_5 (show o_5.toInt ≤ v6.toInt from by omega)) (cwV 3 hts (gV tw_7_42 tw_7_44 tw_p_49 tw_1_13 tw_7_45) rfl rfl rfl hdV_X12_isRoom ⟨Nat.le_of_ble_eq_true rfl, Nat.le_of_ble_eq_true rfl⟩) (cz_V hK hPc hDc hN (ci := 12) (q0 := 0) rfl rfl [.int r_228, .int 2, .int 4]) rfl rfl hl.1 rfl (lv_room (Nat.le_of_ble_eq_true rfl)) dX12_line_41 ⟨Nat.le_of_ble_eq_true rfl, Nat.le_of_ble_eq_true rfl⟩) hS (fun q _ h => hFc q h) hFc (fun r_231 uZ tZ H1 locs ht hvm hw hB hz1 hk1 hS => ?_)
      obtain ⟨o_232, o_233, o_234, o_235, o_236, o_237, o_238⟩ := uZ
      obtain ⟨hP1, hK1, hD1⟩ := hB
      rw [ht] at hP1
      obtain ⟨hP, hD⟩ := va_join (wr := [(m18, .inl (k 0, 250, .inl f18)), (m19, .inl (k 0, 40, .inl f19)), (m20, .inl (k 0, 120, .inl f20)), (m21, .inl (k 0, 20, .inl f21))]) (w1 := [(mo, .inr (12, [.int v0, .ref m1, .ref m2, .ref m3, .ref m4, .ref m5, .int v6, .int o_232, .int o_233, .int o_234, .int o_235, .long o_236, .int o_237, .int o_238, .int v14, .int v15, .ref m16, .ref m17, .ref m18, .ref m19, .ref m20, .ref m21, .ref m22, .ref m23, .int v24, .ref m25, .ref m26, .ref m27, .ref m28, .ref m29, .int v30, .ref m31, .ref m32, .ref m33, .int v34, .int v35, .int v36, .ref m37, .ref m38, .ref m39, .ref m40, .long v41])), (m5, .inl (k 1, 1000, .inl f5)), (m17, .inl (k 0, 30, .inl f17))]) hP hD [6, 4, 5] [0, 1, 2, 3] rfl rfl (by decide +kernel) (by decide +kernel) hk1 hFc hP1 hD1
      clear hK1 hP1 hD1 hPc hDc hFc
      clear hk1 hz1 ht hvm
      have hP : va_P D vwCl [(m18, .inl (k 0, 250, .inl f18)), (m19, .inl (k 0, 40, .inl f19)), (m20, .inl (k 0, 120, .inl f20)), (m21, .inl (k 0, 20, .inl f21)), (mo, .inr (12, [.int v0, .ref m1, .ref m2, .ref m3, .ref m4, .ref m5, .int v6, .int o_232, .int o_233, .int o_234, .int o_235, .long o_236, .int o_237, .int o_238, .int v14, .int v15, .ref m16, .ref m17, .ref m18, .ref m19, .ref m20, .ref m21, .ref m22, .ref m23, .int v24, .ref m25, .ref m26, .ref m27, .ref m28, .ref m29, .int v30, .ref m31, .ref m32, .ref m33, .int v34, .int v35, .int v36, .ref m37, .ref m38, .ref m39, .ref m40, .long v41])), (m5, .inl (k 1, 1000, .inl f5)), (m17, .inl (k 0, 30, .inl f17))] H1 := hP
      have hD : va_D A [(m18, .inl (k 0, 250, .inl f18)), (m19, .inl (k 0, 40, .inl f19)), (m20, .inl (k 0, 120, .inl f20)), (m21, .inl (k 0, 20, .inl f21)), (mo, .inr (12, [.int v0, .ref m1, .ref m2, .ref m3, .ref m4, .ref m5, .int v6, .int o_232, .int o_233, .int o_234, .int o_235, .long o_236, .int o_237, .int o_238, .int v14, .int v15, .ref m16, .ref m17, .ref m18, .ref m19, .ref m20, .ref m21, .ref m22, .ref m23, .int v24, .ref m25, .ref m26, .ref m27, .ref m28, .ref m29, .int v30, .ref m31, .ref m32, .ref m33, .int v34, .int v35, .int v36, .ref m37, .ref m38, .ref m39, .ref m40, .long v41])), (m5, .inl (k 1, 1000, .inl f5)), (m17, .inl (k 0, 30, .inl f17))] := hD
      generalize H1 = H at hP hS ⊢
      have hw_239 : (0 ≤ r_231.toInt ∧ r_231.toInt ≤ 1) ∧ (0 ≤ o_232.toInt ∧ o_232.toInt ≤ 1000) ∧ (o_5.toInt ≤ o_232.toInt ∧ o_232.toInt ≤ v6.toInt) ∧ (r_231.toInt = 0 ∨ (f17 26).toInt ≤ 3) ∧ (r_231.toInt = 0 ∨ o_237.toInt = 0) := hw
      obtain ⟨hw_240, hw_241, hw_242, hw_243, hw_244⟩ := hw_239
      clear hw
      refine lv_if_eq (tgt := 101) hx hb dX12_line_44 (by decide) (fun h_245 => ?_) (fun h_245 => ?_)
      · skip
        have zh_245 : r_231.toInt = 0 := z_eq h_245
        refine lv_aload_n hx hb dX12_line_101 rfl (lv_at hl 0 rfl) ?_
        refine va_get (D := D) (ci := 12) (v := .int o_237) (C := RX12) (T := TX12) (N := 42) hx hb hts iT_X12 hown hK hP 4 rfl rfl 12 (by decide) (hts _ tw_6_65) (fun _ h9 => h9) rfl dX12_line_102 ?_
        refine lv_if_ne (tgt := 132) hx hb dX12_line_105 (by decide) (fun h_246 => ?_) (fun h_246 => ?_)
        · skip
          have zh_246 : ¬ o_237.toInt = 0 := z_ne h_246
          refine lv_aload_n hx hb dX12_line_132 rfl (lv_at hl 0 rfl) ?_
          refine va_get (D := D) (ci := 12) (v := .int o_237) (C := RX12) (T := TX12) (N := 42) hx hb hts iT_X12 hown hK hP 4 rfl rfl 12 (by decide) (hts _ tw_6_65) (fun _ h9 => h9) rfl dX12_line_133 ?_
          refine lv_if_ne (tgt := 210) hx hb dX12_line_136 (by decide) (fun h_247 => ?_) (fun h_247 => ?_)
          · skip
            have zh_247 : ¬ o_237.toInt = 0 := z_ne h_247
            refine lv_aload_n hx hb dX12_line_210 rfl (lv_at hl 0 rfl) ?_
            refine va_get (D := D) (ci := 12) (v := .int o_237) (C := RX12) (T := TX12) (N := 42) hx hb hts iT_X12 hown hK hP 4 rfl rfl 12 (by decide) (hts _ tw_6_65) (fun _ h9 => h9) rfl dX12_line_211 ?_
            refine lv_if_ne (tgt := 222) hx hb dX12_line_214 (by decide) (fun h_248 => ?_) (fun h_248 => ?_)
            · skip
              have zh_248 : ¬ o_237.toInt = 0 := z_ne h_248
              obtain ⟨hP9, hD9⟩ := sub2 hP hD (ws' := [(mo, .inr (12, [.int v0, .ref m1, .ref m2, .ref m3, .ref m4, .ref m5, .int v6, .int o_232, .int o_233, .int o_234, .int o_235, .long o_236, .int o_237, .int o_238, .int v14, .int v15, .ref m16, .ref m17, .ref m18, .ref m19, .ref m20, .ref m21, .ref m22, .ref m23, .int v24, .ref m25, .ref m26, .ref m27, .ref m28, .ref m29, .int v30, .ref m31, .ref m32, .ref m33, .int v34, .int v35, .int v36, .ref m37, .ref m38, .ref m39, .ref m40, .long v41])), (m5, .inl (k 1, 1000, .inl f5)), (m17, .inl (k 0, 30, .inl f17)), (m18, .inl (k 0, 250, .inl f18)), (m19, .inl (k 0, 40, .inl f19)), (m20, .inl (k 0, 120, .inl f20)), (m21, .inl (k 0, 20, .inl f21))]) [4, 5, 6, 0, 1, 2, 3] (by decide +kernel) rfl
              exact W.vret hx hb hr (fun tZ ht hW => ⟨⟨(o_232, o_233, o_234, o_235, o_236, o_237, o_238, f17, f21, f20, f19, f18), rfl, ⟨(show 0 ≤ o_232.toInt ∧ o_232.toInt ≤ 1000 from by omega), hp_f17_0, hp_f17_1, hp_f17_2, hp_f17_3, hp_f17_4, hp_f17_5, hp_f21_0, hp_f21_1, hp_f20_0, hp_f19_0, hp_f19_1, hp_f18_0, hp_f18_1, hp_f18_2, hp_f18_3, (show v7.toInt ≤ o_232.toInt ∧ o_232.toInt ≤ v6.toInt from by omega), hTK⟩, by rw [ht]; exact hP9, va_K.moved hW.alike hK, hD9⟩, hS.F ht⟩) hS.2.2 dX12_line_222
            · skip
              have zh_248 : o_237.toInt = 0 := z_eq h_248
              refine lv_aload_n hx hb dX12_line_217 rfl (lv_at hl 0 rfl) ?_
              refine lv_iconst (v := 1) hx hb dX12_line_218 (by decide) ?_
              obtain ⟨hPc, hDc, hFc⟩ := sub3 hP hD hS hA (ws' := [(mo, .inr (12, [.int v0, .ref m1, .ref m2, .ref m3, .ref m4, .ref m5, .int v6, .int o_232, .int o_233, .int o_234, .int o_235, .long o_236, .int o_237, .int o_238, .int v14, .int v15, .ref m16, .ref m17, .ref m18, .ref m19, .ref m20, .ref m21, .ref m22, .ref m23, .int v24, .ref m25, .ref m26, .ref m27, .ref m28, .ref m29, .int v30, .ref m31, .ref m32, .ref m33, .int v34, .int v35, .int v36, .ref m37, .ref m38, .ref m39, .ref m40, .long v41]))]) [4] (by decide +kernel) rfl
              refine va_callv (va_runV (C := RX12) (As := [.int 1]) (rest := []) ⟨hx, hb, hml, hown, hts⟩ (c_X12_fails l D k mo 1 v0 m1 m2 m3 m4 m5 v6 o_232 o_233 o_234 o_235 o_236 o_237 o_238 v14 v15 m16 m17 m18 m19 m20 m21 m22 m23 v24 m25 m26 m27 m28 m29 v30 m31 m32 m33 v34 v35 v36 m37 m38 m39 m40 v41 H.size (show 0 ≤ v6.toInt ∧ v6.toInt ≤ 1000 from by omega) (show 0 ≤ v24.toInt ∧ v24.toInt ≤ 1023 from by omega)) (cwV 1 hts (gV tw_7_24 tw_7_26 tw_p_45 tw_1_13 tw_7_27) rfl rfl rfl hdV_X12_fails ⟨Nat.le_of_ble_eq_true rfl, Nat.le_of_ble_eq_true rfl⟩) (cz_V hK hPc hDc hN (ci := 12) (q0 := 0) rfl rfl [.int 1]) rfl rfl hl.1 rfl (lv_room (Nat.le_of_ble_eq_true rfl)) dX12_line_219 ⟨Nat.le_of_ble_eq_true rfl, Nat.le_of_ble_eq_true rfl⟩) hS (fun q _ h => hFc q h) hFc (fun uZ tZ H1 locs ht hvm hw hB hz1 hk1 hS => ?_)
              obtain ⟨o_250, o_251⟩ := uZ
              obtain ⟨hP1, hK1, hD1⟩ := hB
              rw [ht] at hP1
              obtain ⟨hP, hD⟩ := va_join (wr := [(m18, .inl (k 0, 250, .inl f18)), (m19, .inl (k 0, 40, .inl f19)), (m20, .inl (k 0, 120, .inl f20)), (m21, .inl (k 0, 20, .inl f21)), (m5, .inl (k 1, 1000, .inl f5)), (m17, .inl (k 0, 30, .inl f17))]) (w1 := [(mo, .inr (12, [.int v0, .ref m1, .ref m2, .ref m3, .ref m4, .ref m5, .int v6, .int o_232, .int o_233, .int o_234, .int o_235, .long o_236, .int o_250, .int o_251, .int v14, .int v15, .ref m16, .ref m17, .ref m18, .ref m19, .ref m20, .ref m21, .ref m22, .ref m23, .int v24, .ref m25, .ref m26, .ref m27, .ref m28, .ref m29, .int v30, .ref m31, .ref m32, .ref m33, .int v34, .int v35, .int v36, .ref m37, .ref m38, .ref m39, .ref m40, .long v41]))]) hP hD [4] [0, 1, 2, 3, 5, 6] rfl rfl (by decide +kernel) (by decide +kernel) hk1 hFc hP1 hD1
              clear hK1 hP1 hD1 hPc hDc hFc
              clear hk1 hz1 ht hvm
              have hP : va_P D vwCl [(m18, .inl (k 0, 250, .inl f18)), (m19, .inl (k 0, 40, .inl f19)), (m20, .inl (k 0, 120, .inl f20)), (m21, .inl (k 0, 20, .inl f21)), (m5, .inl (k 1, 1000, .inl f5)), (m17, .inl (k 0, 30, .inl f17)), (mo, .inr (12, [.int v0, .ref m1, .ref m2, .ref m3, .ref m4, .ref m5, .int v6, .int o_232, .int o_233, .int o_234, .int o_235, .long o_236, .int o_250, .int o_251, .int v14, .int v15, .ref m16, .ref m17, .ref m18, .ref m19, .ref m20, .ref m21, .ref m22, .ref m23, .int v24, .ref m25, .ref m26, .ref m27, .ref m28, .ref m29, .int v30, .ref m31, .ref m32, .ref m33, .int v34, .int v35, .int v36, .ref m37, .ref m38, .ref m39, .ref m40, .long v41]))] H1 := hP
              have hD : va_D A [(m18, .inl (k 0, 250, .inl f18)), (m19, .inl (k 0, 40, .inl f19)), (m20, .inl (k 0, 120, .inl f20)), (m21, .inl (k 0, 20, .inl f21)), (m5, .inl (k 1, 1000, .inl f5)), (m17, .inl (k 0, 30, .inl f17)), (mo, .inr (12, [.int v0, .ref m1, .ref m2, .ref m3, .ref m4, .ref m5, .int v6, .int o_232, .int o_233, .int o_234, .int o_235, .long o_236, .int o_250, .int o_251, .int v14, .int v15, .ref m16, .ref m17, .ref m18, .ref m19, .ref m20, .ref m21, .ref m22, .ref m23, .int v24, .ref m25, .ref m26, .ref m27, .ref m28, .ref m29, .int v30, .ref m31, .ref m32, .ref m33, .int v34, .int v35, .int v36, .ref m37, .ref m38, .ref m39, .ref m40, .long v41]))] := hD
              generalize H1 = H at hP hS ⊢
              have hw_252 : ((o_237.toInt = 0 ∧ o_250.toInt = 1) ∨ (¬ o_237.toInt = 0 ∧ o_250.toInt = o_237.toInt)) := hw
              have hw_253 := hw_252
              clear hw
              obtain ⟨hP9, hD9⟩ := sub2 hP hD (ws' := [(mo, .inr (12, [.int v0, .ref m1, .ref m2, .ref m3, .ref m4, .ref m5, .int v6, .int o_232, .int o_233, .int o_234, .int o_235, .long o_236, .int o_250, .int o_251, .int v14, .int v15, .ref m16, .ref m17, .ref m18, .ref m19, .ref m20, .ref m21, .ref m22, .ref m23, .int v24, .ref m25, .ref m26, .ref m27, .ref m28, .ref m29, .int v30, .ref m31, .ref m32, .ref m33, .int v34, .int v35, .int v36, .ref m37, .ref m38, .ref m39, .ref m40, .long v41])), (m5, .inl (k 1, 1000, .inl f5)), (m17, .inl (k 0, 30, .inl f17)), (m18, .inl (k 0, 250, .inl f18)), (m19, .inl (k 0, 40, .inl f19)), (m20, .inl (k 0, 120, .inl f20)), (m21, .inl (k 0, 20, .inl f21))]) [6, 4, 5, 0, 1, 2, 3] (by decide +kernel) rfl
              exact W.vret hx hb hr (fun tZ ht hW => ⟨⟨(o_232, o_233, o_234, o_235, o_236, o_250, o_251, f17, f21, f20, f19, f18), rfl, ⟨(show 0 ≤ o_232.toInt ∧ o_232.toInt ≤ 1000 from by omega), hp_f17_0, hp_f17_1, hp_f17_2, hp_f17_3, hp_f17_4, hp_f17_5, hp_f21_0, hp_f21_1, hp_f20_0, hp_f19_0, hp_f19_1, hp_f18_0, hp_f18_1, hp_f18_2, hp_f18_3, (show v7.toInt ≤ o_232.toInt ∧ o_232.toInt ≤ v6.toInt from by omega), hTK⟩, by rw [ht]; exact hP9, va_K.moved hW.alike hK, hD9⟩, hS.F ht⟩) hS.2.2 dX12_line_222
          · skip
            have zh_247 : o_237.toInt = 0 := z_eq h_247
            refine lv_aload_n hx hb dX12_line_139 rfl (lv_at hl 0 rfl) ?_
            refine lv_aload_n hx hb dX12_line_140 rfl (lv_at hl 0 rfl) ?_
            refine lv_ldc2 (v := 206754213222) hx hb hown (hts _ tw_7_77) dX12_line_141 ?_
            obtain ⟨hPc, hDc, hFc⟩ := sub3 hP hD hS hA (ws' := [(mo, .inr (12, [.int v0, .ref m1, .ref m2, .ref m3, .ref m4, .ref m5, .int v6, .int o_232, .int o_233, .int o_234, .int o_235, .long o_236, .int o_237, .int o_238, .int v14, .int v15, .ref m16, .ref m17, .ref m18, .ref m19, .ref m20, .ref m21, .ref m22, .ref m23, .int v24, .ref m25, .ref m26, .ref m27, .ref m28, .ref m29, .int v30, .ref m31, .ref m32, .ref m33, .int v34, .int v35, .int v36, .ref m37, .ref m38, .ref m39, .ref m40, .long v41]))]) [4] (by decide +kernel) rfl
            refine va_calli (va_runV (C := RX12) (As := [.long 206754213222]) (rest := [.ref mo]) ⟨hx, hb, hml, hown, hts⟩ (c_X12_is l D k mo 206754213222 v0 m1 m2 m3 m4 m5 v6 o_232 o_233 o_234 o_235 o_236 o_237 o_238 v14 v15 m16 m17 m18 m19 m20 m21 m22 m23 v24 m25 m26 m27 m28 m29 v30 m31 m32 m33 v34 v35 v36 m37 m38 m39 m40 v41 H.size (show 0 ≤ v6.toInt ∧ v6.toInt ≤ 1000 from by omega) (show 0 ≤ v24.toInt ∧ v24.toInt ≤ 1023 from by omega)) (cwV 1 hts (gV tw_7_20 tw_7_22 tw_p_44 tw_1_13 tw_7_23) rfl rfl rfl hdV_X12_is ⟨Nat.le_of_ble_eq_true rfl, Nat.le_of_ble_eq_true rfl⟩) (cz_V hK hPc hDc hN (ci := 12) (q0 := 0) rfl rfl [.long 206754213222]) rfl rfl hl.1 rfl (lv_room (Nat.le_of_ble_eq_true rfl)) dX12_line_144 ⟨Nat.le_of_ble_eq_true rfl, Nat.le_of_ble_eq_true rfl⟩) hS (fun q _ h => hFc q h) hFc (fun r_254 uZ tZ H1 locs ht hvm hw hB hz1 hk1 hS => ?_)
            obtain ⟨hP1, hK1, hD1⟩ := hB
            rw [ht] at hP1
            obtain ⟨hP, hD⟩ := va_join (wr := [(m18, .inl (k 0, 250, .inl f18)), (m19, .inl (k 0, 40, .inl f19)), (m20, .inl (k 0, 120, .inl f20)), (m21, .inl (k 0, 20, .inl f21)), (m5, .inl (k 1, 1000, .inl f5)), (m17, .inl (k 0, 30, .inl f17))]) (w1 := [(mo, .inr (12, [.int v0, .ref m1, .ref m2, .ref m3, .ref m4, .ref m5, .int v6, .int o_232, .int o_233, .int o_234, .int o_235, .long o_236, .int o_237, .int o_238, .int v14, .int v15, .ref m16, .ref m17, .ref m18, .ref m19, .ref m20, .ref m21, .ref m22, .ref m23, .int v24, .ref m25, .ref m26, .ref m27, .ref m28, .ref m29, .int v30, .ref m31, .ref m32, .ref m33, .int v34, .int v35, .int v36, .ref m37, .ref m38, .ref m39, .ref m40, .long v41]))]) hP hD [4] [0, 1, 2, 3, 5, 6] rfl rfl (by decide +kernel) (by decide +kernel) hk1 hFc hP1 hD1
            clear hK1 hP1 hD1 hPc hDc hFc
            clear hk1 hz1 ht hvm
            have hP : va_P D vwCl [(m18, .inl (k 0, 250, .inl f18)), (m19, .inl (k 0, 40, .inl f19)), (m20, .inl (k 0, 120, .inl f20)), (m21, .inl (k 0, 20, .inl f21)), (m5, .inl (k 1, 1000, .inl f5)), (m17, .inl (k 0, 30, .inl f17)), (mo, .inr (12, [.int v0, .ref m1, .ref m2, .ref m3, .ref m4, .ref m5, .int v6, .int o_232, .int o_233, .int o_234, .int o_235, .long o_236, .int o_237, .int o_238, .int v14, .int v15, .ref m16, .ref m17, .ref m18, .ref m19, .ref m20, .ref m21, .ref m22, .ref m23, .int v24, .ref m25, .ref m26, .ref m27, .ref m28, .ref m29, .int v30, .ref m31, .ref m32, .ref m33, .int v34, .int v35, .int v36, .ref m37, .ref m38, .ref m39, .ref m40, .long v41]))] H1 := hP
            have hD : va_D A [(m18, .inl (k 0, 250, .inl f18)), (m19, .inl (k 0, 40, .inl f19)), (m20, .inl (k 0, 120, .inl f20)), (m21, .inl (k 0, 20, .inl f21)), (m5, .inl (k 1, 1000, .inl f5)), (m17, .inl (k 0, 30, .inl f17)), (mo, .inr (12, [.int v0, .ref m1, .ref m2, .ref m3, .ref m4, .ref m5, .int v6, .int o_232, .int o_233, .int o_234, .int o_235, .long o_236, .int o_237, .int o_238, .int v14, .int v15, .ref m16, .ref m17, .ref m18, .ref m19, .ref m20, .ref m21, .ref m22, .ref m23, .int v24, .ref m25, .ref m26, .ref m27, .ref m28, .ref m29, .int v30, .ref m31, .ref m32, .ref m33, .int v34, .int v35, .int v36, .ref m37, .ref m38, .ref m39, .ref m40, .long v41]))] := hD
            generalize H1 = H at hP hS ⊢
            have hw_255 : (0 ≤ r_254.toInt ∧ r_254.toInt ≤ 1) := hw
            have hw_256 := hw_255
            clear hw
            refine lv_iconst (v := 4) hx hb dX12_line_147 (by decide) ?_
            refine lv_iconst (v := 2) hx hb dX12_line_148 (by decide) ?_
            obtain ⟨hPc, hDc, hFc⟩ := sub3 hP hD hS hA (ws' := [(mo, .inr (12, [.int v0, .ref m1, .ref m2, .ref m3, .ref m4, .ref m5, .int v6, .int o_232, .int o_233, .int o_234, .int o_235, .long o_236, .int o_237, .int o_238, .int v14, .int v15, .ref m16, .ref m17, .ref m18, .ref m19, .ref m20, .ref m21, .ref m22, .ref m23, .int v24, .ref m25, .ref m26, .ref m27, .ref m28, .ref m29, .int v30, .ref m31, .ref m32, .ref m33, .int v34, .int v35, .int v36, .ref m37, .ref m38, .ref m39, .ref m40, .long v41])), (m5, .inl (k 1, 1000, .inl f5)), (m17, .inl (k 0, 30, .inl f17))]) [6, 4, 5] (by decide +kernel) rfl
            refine va_calli (va_runV (C := RX12) (As := [.int r_254, .int 4, .int 2]) (rest := []) ⟨hx, hb, hml, hown, hts⟩ (c_X12_isRoom_3 l D k mo r_254 v0 m1 m2 m3 m4 m5 v6 o_232 o_233 o_234 o_235 o_236 o_237 o_238 v14 v15 m16 m17 m18 m19 m20 m21 m22 m23 v24 m25 m26 m27 m28 m29 v30 m31 m32 m33 v34 v35 v36 m37 m38 m39 m40 v41 f5 f17 H.size (show 0 ≤ r_254.toInt ∧ r_254.toInt ≤ 1 from by omega) (show 0 ≤ v6.toInt ∧ v6.toInt ≤ 1000 from by omega) (show 0 ≤ o_232.toInt ∧ o_232.toInt ≤ 1000 from by omega) (show 0 ≤ v24.toInt ∧ v24.toInt ≤ 1023 from by omega) hp_f17_0 hp_f17_1 hp_f17_2 hp_f17_3 hp_f17_4 hp_f17_5 (show o_232.toInt ≤ v6.toInt from by omega)) (cwV 3 hts (gV tw_7_42 tw_7_44 tw_p_49 tw_1_13 tw_7_45) rfl rfl rfl hdV_X12_isRoom ⟨Nat.le_of_ble_eq_true rfl, Nat.le_of_ble_eq_true rfl⟩) (cz_V hK hPc hDc hN (ci := 12) (q0 := 0) rfl rfl [.int r_254, .int 4, .int 2]) rfl rfl hl.1 rfl (lv_room (Nat.le_of_ble_eq_true rfl)) dX12_line_149 ⟨Nat.le_of_ble_eq_true rfl, Nat.le_of_ble_eq_true rfl⟩) hS (fun q _ h => hFc q h) hFc (fun r_257 uZ tZ H1 locs ht hvm hw hB hz1 hk1 hS => ?_)
            obtain ⟨o_258, o_259, o_260, o_261, o_262, o_263, o_264⟩ := uZ
            obtain ⟨hP1, hK1, hD1⟩ := hB
            rw [ht] at hP1
            obtain ⟨hP, hD⟩ := va_join (wr := [(m18, .inl (k 0, 250, .inl f18)), (m19, .inl (k 0, 40, .inl f19)), (m20, .inl (k 0, 120, .inl f20)), (m21, .inl (k 0, 20, .inl f21))]) (w1 := [(mo, .inr (12, [.int v0, .ref m1, .ref m2, .ref m3, .ref m4, .ref m5, .int v6, .int o_258, .int o_259, .int o_260, .int o_261, .long o_262, .int o_263, .int o_264, .int v14, .int v15, .ref m16, .ref m17, .ref m18, .ref m19, .ref m20, .ref m21, .ref m22, .ref m23, .int v24, .ref m25, .ref m26, .ref m27, .ref m28, .ref m29, .int v30, .ref m31, .ref m32, .ref m33, .int v34, .int v35, .int v36, .ref m37, .ref m38, .ref m39, .ref m40, .long v41])), (m5, .inl (k 1, 1000, .inl f5)), (m17, .inl (k 0, 30, .inl f17))]) hP hD [6, 4, 5] [0, 1, 2, 3] rfl rfl (by decide +kernel) (by decide +kernel) hk1 hFc hP1 hD1
            clear hK1 hP1 hD1 hPc hDc hFc
            clear hk1 hz1 ht hvm
            have hP : va_P D vwCl [(m18, .inl (k 0, 250, .inl f18)), (m19, .inl (k 0, 40, .inl f19)), (m20, .inl (k 0, 120, .inl f20)), (m21, .inl (k 0, 20, .inl f21)), (mo, .inr (12, [.int v0, .ref m1, .ref m2, .ref m3, .ref m4, .ref m5, .int v6, .int o_258, .int o_259, .int o_260, .int o_261, .long o_262, .int o_263, .int o_264, .int v14, .int v15, .ref m16, .ref m17, .ref m18, .ref m19, .ref m20, .ref m21, .ref m22, .ref m23, .int v24, .ref m25, .ref m26, .ref m27, .ref m28, .ref m29, .int v30, .ref m31, .ref m32, .ref m33, .int v34, .int v35, .int v36, .ref m37, .ref m38, .ref m39, .ref m40, .long v41])), (m5, .inl (k 1, 1000, .inl f5)), (m17, .inl (k 0, 30, .inl f17))] H1 := hP
            have hD : va_D A [(m18, .inl (k 0, 250, .inl f18)), (m19, .inl (k 0, 40, .inl f19)), (m20, .inl (k 0, 120, .inl f20)), (m21, .inl (k 0, 20, .inl f21)), (mo, .inr (12, [.int v0, .ref m1, .ref m2, .ref m3, .ref m4, .ref m5, .int v6, .int o_258, .int o_259, .int o_260, .int o_261, .long o_262, .int o_263, .int o_264, .int v14, .int v15, .ref m16, .ref m17, .ref m18, .ref m19, .ref m20, .ref m21, .ref m22, .ref m23, .int v24, .ref m25, .ref m26, .ref m27, .ref m28, .ref m29, .int v30, .ref m31, .ref m32, .ref m33, .int v34, .int v35, .int v36, .ref m37, .ref m38, .ref m39, .ref m40, .long v41])), (m5, .inl (k 1, 1000, .inl f5)), (m17, .inl (k 0, 30, .inl f17))] := hD
            generalize H1 = H at hP hS ⊢
            have hw_265 : (0 ≤ r_257.toInt ∧ r_257.toInt ≤ 1) ∧ (0 ≤ o_258.toInt ∧ o_258.toInt ≤ 1000) ∧ (o_232.toInt ≤ o_258.toInt ∧ o_258.toInt ≤ v6.toInt) ∧ (r_257.toInt = 0 ∨ (f17 28).toInt ≤ 1) ∧ (r_257.toInt = 0 ∨ o_263.toInt = 0) := hw
            obtain ⟨hw_266, hw_267, hw_268, hw_269, hw_270⟩ := hw_265
            clear hw
            refine lv_if_eq (tgt := 210) hx hb dX12_line_152 (by decide) (fun h_271 => ?_) (fun h_271 => ?_)
            · skip
              have zh_271 : r_257.toInt = 0 := z_eq h_271
              refine lv_aload_n hx hb dX12_line_210 rfl (lv_at hl 0 rfl) ?_
              refine va_get (D := D) (ci := 12) (v := .int o_263) (C := RX12) (T := TX12) (N := 42) hx hb hts iT_X12 hown hK hP 4 rfl rfl 12 (by decide) (hts _ tw_6_65) (fun _ h9 => h9) rfl dX12_line_211 ?_
              refine lv_if_ne (tgt := 222) hx hb dX12_line_214 (by decide) (fun h_272 => ?_) (fun h_272 => ?_)
              · skip
                have zh_272 : ¬ o_263.toInt = 0 := z_ne h_272
                obtain ⟨hP9, hD9⟩ := sub2 hP hD (ws' := [(mo, .inr (12, [.int v0, .ref m1, .ref m2, .ref m3, .ref m4, .ref m5, .int v6, .int o_258, .int o_259, .int o_260, .int o_261, .long o_262, .int o_263, .int o_264, .int v14, .int v15, .ref m16, .ref m17, .ref m18, .ref m19, .ref m20, .ref m21, .ref m22, .ref m23, .int v24, .ref m25, .ref m26, .ref m27, .ref m28, .ref m29, .int v30, .ref m31, .ref m32, .ref m33, .int v34, .int v35, .int v36, .ref m37, .ref m38, .ref m39, .ref m40, .long v41])), (m5, .inl (k 1, 1000, .inl f5)), (m17, .inl (k 0, 30, .inl f17)), (m18, .inl (k 0, 250, .inl f18)), (m19, .inl (k 0, 40, .inl f19)), (m20, .inl (k 0, 120, .inl f20)), (m21, .inl (k 0, 20, .inl f21))]) [4, 5, 6, 0, 1, 2, 3] (by decide +kernel) rfl
                exact W.vret hx hb hr (fun tZ ht hW => ⟨⟨(o_258, o_259, o_260, o_261, o_262, o_263, o_264, f17, f21, f20, f19, f18), rfl, ⟨(show 0 ≤ o_258.toInt ∧ o_258.toInt ≤ 1000 from by omega), hp_f17_0, hp_f17_1, hp_f17_2, hp_f17_3, hp_f17_4, hp_f17_5, hp_f21_0, hp_f21_1, hp_f20_0, hp_f19_0, hp_f19_1, hp_f18_0, hp_f18_1, hp_f18_2, hp_f18_3, (show v7.toInt ≤ o_258.toInt ∧ o_258.toInt ≤ v6.toInt from by omega), hTK⟩, by rw [ht]; exact hP9, va_K.moved hW.alike hK, hD9⟩, hS.F ht⟩) hS.2.2 dX12_line_222
              · skip
                have zh_272 : o_263.toInt = 0 := z_eq h_272
                refine lv_aload_n hx hb dX12_line_217 rfl (lv_at hl 0 rfl) ?_
                refine lv_iconst (v := 1) hx hb dX12_line_218 (by decide) ?_
                obtain ⟨hPc, hDc, hFc⟩ := sub3 hP hD hS hA (ws' := [(mo, .inr (12, [.int v0, .ref m1, .ref m2, .ref m3, .ref m4, .ref m5, .int v6, .int o_258, .int o_259, .int o_260, .int o_261, .long o_262, .int o_263, .int o_264, .int v14, .int v15, .ref m16, .ref m17, .ref m18, .ref m19, .ref m20, .ref m21, .ref m22, .ref m23, .int v24, .ref m25, .ref m26, .ref m27, .ref m28, .ref m29, .int v30, .ref m31, .ref m32, .ref m33, .int v34, .int v35, .int v36, .ref m37, .ref m38, .ref m39, .ref m40, .long v41]))]) [4] (by decide +kernel) rfl
                refine va_callv (va_runV (C := RX12) (As := [.int 1]) (rest := []) ⟨hx, hb, hml, hown, hts⟩ (c_X12_fails l D k mo 1 v0 m1 m2 m3 m4 m5 v6 o_258 o_259 o_260 o_261 o_262 o_263 o_264 v14 v15 m16 m17 m18 m19 m20 m21 m22 m23 v24 m25 m26 m27 m28 m29 v30 m31 m32 m33 v34 v35 v36 m37 m38 m39 m40 v41 H.size (show 0 ≤ v6.toInt ∧ v6.toInt ≤ 1000 from by omega) (show 0 ≤ v24.toInt ∧ v24.toInt ≤ 1023 from by omega)) (cwV 1 hts (gV tw_7_24 tw_7_26 tw_p_45 tw_1_13 tw_7_27) rfl rfl rfl hdV_X12_fails ⟨Nat.le_of_ble_eq_true rfl, Nat.le_of_ble_eq_true rfl⟩) (cz_V hK hPc hDc hN (ci := 12) (q0 := 0) rfl rfl [.int 1]) rfl rfl hl.1 rfl (lv_room (Nat.le_of_ble_eq_true rfl)) dX12_line_219 ⟨Nat.le_of_ble_eq_true rfl, Nat.le_of_ble_eq_true rfl⟩) hS (fun q _ h => hFc q h) hFc (fun uZ tZ H1 locs ht hvm hw hB hz1 hk1 hS => ?_)
                obtain ⟨o_274, o_275⟩ := uZ
                obtain ⟨hP1, hK1, hD1⟩ := hB
                rw [ht] at hP1
                obtain ⟨hP, hD⟩ := va_join (wr := [(m18, .inl (k 0, 250, .inl f18)), (m19, .inl (k 0, 40, .inl f19)), (m20, .inl (k 0, 120, .inl f20)), (m21, .inl (k 0, 20, .inl f21)), (m5, .inl (k 1, 1000, .inl f5)), (m17, .inl (k 0, 30, .inl f17))]) (w1 := [(mo, .inr (12, [.int v0, .ref m1, .ref m2, .ref m3, .ref m4, .ref m5, .int v6, .int o_258, .int o_259, .int o_260, .int o_261, .long o_262, .int o_274, .int o_275, .int v14, .int v15, .ref m16, .ref m17, .ref m18, .ref m19, .ref m20, .ref m21, .ref m22, .ref m23, .int v24, .ref m25, .ref m26, .ref m27, .ref m28, .ref m29, .int v30, .ref m31, .ref m32, .ref m33, .int v34, .int v35, .int v36, .ref m37, .ref m38, .ref m39, .ref m40, .long v41]))]) hP hD [4] [0, 1, 2, 3, 5, 6] rfl rfl (by decide +kernel) (by decide +kernel) hk1 hFc hP1 hD1
                clear hK1 hP1 hD1 hPc hDc hFc
                clear hk1 hz1 ht hvm
                have hP : va_P D vwCl [(m18, .inl (k 0, 250, .inl f18)), (m19, .inl (k 0, 40, .inl f19)), (m20, .inl (k 0, 120, .inl f20)), (m21, .inl (k 0, 20, .inl f21)), (m5, .inl (k 1, 1000, .inl f5)), (m17, .inl (k 0, 30, .inl f17)), (mo, .inr (12, [.int v0, .ref m1, .ref m2, .ref m3, .ref m4, .ref m5, .int v6, .int o_258, .int o_259, .int o_260, .int o_261, .long o_262, .int o_274, .int o_275, .int v14, .int v15, .ref m16, .ref m17, .ref m18, .ref m19, .ref m20, .ref m21, .ref m22, .ref m23, .int v24, .ref m25, .ref m26, .ref m27, .ref m28, .ref m29, .int v30, .ref m31, .ref m32, .ref m33, .int v34, .int v35, .int v36, .ref m37, .ref m38, .ref m39, .ref m40, .long v41]))] H1 := hP
                have hD : va_D A [(m18, .inl (k 0, 250, .inl f18)), (m19, .inl (k 0, 40, .inl f19)), (m20, .inl (k 0, 120, .inl f20)), (m21, .inl (k 0, 20, .inl f21)), (m5, .inl (k 1, 1000, .inl f5)), (m17, .inl (k 0, 30, .inl f17)), (mo, .inr (12, [.int v0, .ref m1, .ref m2, .ref m3, .ref m4, .ref m5, .int v6, .int o_258, .int o_259, .int o_260, .int o_261, .long o_262, .int o_274, .int o_275, .int v14, .int v15, .ref m16, .ref m17, .ref m18, .ref m19, .ref m20, .ref m21, .ref m22, .ref m23, .int v24, .ref m25, .ref m26, .ref m27, .ref m28, .ref m29, .int v30, .ref m31, .ref m32, .ref m33, .int v34, .int v35, .int v36, .ref m37, .ref m38, .ref m39, .ref m40, .long v41]))] := hD
                generalize H1 = H at hP hS ⊢
                have hw_276 : ((o_263.toInt = 0 ∧ o_274.toInt = 1) ∨ (¬ o_263.toInt = 0 ∧ o_274.toInt = o_263.toInt)) := hw
                have hw_277 := hw_276
                clear hw
                obtain ⟨hP9, hD9⟩ := sub2 hP hD (ws' := [(mo, .inr (12, [.int v0, .ref m1, .ref m2, .ref m3, .ref m4, .ref m5, .int v6, .int o_258, .int o_259, .int o_260, .int o_261, .long o_262, .int o_274, .int o_275, .int v14, .int v15, .ref m16, .ref m17, .ref m18, .ref m19, .ref m20, .ref m21, .ref m22, .ref m23, .int v24, .ref m25, .ref m26, .ref m27, .ref m28, .ref m29, .int v30, .ref m31, .ref m32, .ref m33, .int v34, .int v35, .int v36, .ref m37, .ref m38, .ref m39, .ref m40, .long v41])), (m5, .inl (k 1, 1000, .inl f5)), (m17, .inl (k 0, 30, .inl f17)), (m18, .inl (k 0, 250, .inl f18)), (m19, .inl (k 0, 40, .inl f19)), (m20, .inl (k 0, 120, .inl f20)), (m21, .inl (k 0, 20, .inl f21))]) [6, 4, 5, 0, 1, 2, 3] (by decide +kernel) rfl
                exact W.vret hx hb hr (fun tZ ht hW => ⟨⟨(o_258, o_259, o_260, o_261, o_262, o_274, o_275, f17, f21, f20, f19, f18), rfl, ⟨(show 0 ≤ o_258.toInt ∧ o_258.toInt ≤ 1000 from by omega), hp_f17_0, hp_f17_1, hp_f17_2, hp_f17_3, hp_f17_4, hp_f17_5, hp_f21_0, hp_f21_1, hp_f20_0, hp_f19_0, hp_f19_1, hp_f18_0, hp_f18_1, hp_f18_2, hp_f18_3, (show v7.toInt ≤ o_258.toInt ∧ o_258.toInt ≤ v6.toInt from by omega), hTK⟩, by rw [ht]; exact hP9, va_K.moved hW.alike hK, hD9⟩, hS.F ht⟩) hS.2.2 dX12_line_222
            · skip
              have zh_271 : ¬ r_257.toInt = 0 := z_ne h_271
              refine lv_iconst (v := 2) hx hb dX12_line_155 (by decide) ?_
              refine lv_bipush (v := 8) hx hb dX12_line_156 (by decide) ?_
              refine lv_aload_n hx hb dX12_line_158 rfl (lv_at hl 0 rfl) ?_
              refine lv_iconst (v := 4) hx hb dX12_line_159 (by decide) ?_
              obtain ⟨hPc, hDc, hFc⟩ := sub3 hP hD hS hA (ws' := [(mo, .inr (12, [.int v0, .ref m1, .ref m2, .ref m3, .ref m4, .ref m5, .int v6, .int o_258, .int o_259, .int o_260, .int o_261, .long o_262, .int o_263, .int o_264, .int v14, .int v15, .ref m16, .ref m17, .ref m18, .ref m19, .ref m20, .ref m21, .ref m22, .ref m23, .int v24, .ref m25, .ref m26, .ref m27, .ref m28, .ref m29, .int v30, .ref m31, .ref m32, .ref m33, .int v34, .int v35, .int v36, .ref m37, .ref m38, .ref m39, .ref m40, .long v41])), (m17, .inl (k 0, 30, .inl f17))]) [4, 6] (by decide +kernel) rfl
              refine va_calli (va_runV (C := RX12) (As := [.int 4]) (rest := [.int 8, .int 2]) ⟨hx, hb, hml, hown, hts⟩ (c_X12_hasRead_4 l D k mo v0 m1 m2 m3 m4 m5 v6 o_258 o_259 o_260 o_261 o_262 o_263 o_264 v14 v15 m16 m17 m18 m19 m20 m21 m22 m23 v24 m25 m26 m27 m28 m29 v30 m31 m32 m33 v34 v35 v36 m37 m38 m39 m40 v41 f17 H.size (show 0 ≤ v6.toInt ∧ v6.toInt ≤ 1000 from by omega) (show 0 ≤ v24.toInt ∧ v24.toInt ≤ 1023 from by omega) hp_f17_0 hp_f17_1 hp_f17_2 hp_f17_3 hp_f17_4 hp_f17_5) (cwV 1 hts (gV tw_7_46 tw_7_48 tw_p_50 tw_1_13 tw_7_49) rfl rfl rfl hdV_X12_hasRead ⟨Nat.le_of_ble_eq_true rfl, Nat.le_of_ble_eq_true rfl⟩) (cz_V hK hPc hDc hN (ci := 12) (q0 := 0) rfl rfl [.int 4]) rfl rfl hl.1 rfl (lv_room (Nat.le_of_ble_eq_true rfl)) dX12_line_160 ⟨Nat.le_of_ble_eq_true rfl, Nat.le_of_ble_eq_true rfl⟩) hS (fun q _ h => hFc q h) hFc (fun r_278 uZ tZ H1 locs ht hvm hw hB hz1 hk1 hS => ?_)
              obtain ⟨hP1, hK1, hD1⟩ := hB
              rw [ht] at hP1
              obtain ⟨hP, hD⟩ := va_join (wr := [(m18, .inl (k 0, 250, .inl f18)), (m19, .inl (k 0, 40, .inl f19)), (m20, .inl (k 0, 120, .inl f20)), (m21, .inl (k 0, 20, .inl f21)), (m5, .inl (k 1, 1000, .inl f5))]) (w1 := [(mo, .inr (12, [.int v0, .ref m1, .ref m2, .ref m3, .ref m4, .ref m5, .int v6, .int o_258, .int o_259, .int o_260, .int o_261, .long o_262, .int o_263, .int o_264, .int v14, .int v15, .ref m16, .ref m17, .ref m18, .ref m19, .ref m20, .ref m21, .ref m22, .ref m23, .int v24, .ref m25, .ref m26, .ref m27, .ref m28, .ref m29, .int v30, .ref m31, .ref m32, .ref m33, .int v34, .int v35, .int v36, .ref m37, .ref m38, .ref m39, .ref m40, .long v41])), (m17, .inl (k 0, 30, .inl f17))]) hP hD [4, 6] [0, 1, 2, 3, 5] rfl rfl (by decide +kernel) (by decide +kernel) hk1 hFc hP1 hD1
              clear hK1 hP1 hD1 hPc hDc hFc
              clear hk1 hz1 ht hvm
              have hP : va_P D vwCl [(m18, .inl (k 0, 250, .inl f18)), (m19, .inl (k 0, 40, .inl f19)), (m20, .inl (k 0, 120, .inl f20)), (m21, .inl (k 0, 20, .inl f21)), (m5, .inl (k 1, 1000, .inl f5)), (mo, .inr (12, [.int v0, .ref m1, .ref m2, .ref m3, .ref m4, .ref m5, .int v6, .int o_258, .int o_259, .int o_260, .int o_261, .long o_262, .int o_263, .int o_264, .int v14, .int v15, .ref m16, .ref m17, .ref m18, .ref m19, .ref m20, .ref m21, .ref m22, .ref m23, .int v24, .ref m25, .ref m26, .ref m27, .ref m28, .ref m29, .int v30, .ref m31, .ref m32, .ref m33, .int v34, .int v35, .int v36, .ref m37, .ref m38, .ref m39, .ref m40, .long v41])), (m17, .inl (k 0, 30, .inl f17))] H1 := hP
              have hD : va_D A [(m18, .inl (k 0, 250, .inl f18)), (m19, .inl (k 0, 40, .inl f19)), (m20, .inl (k 0, 120, .inl f20)), (m21, .inl (k 0, 20, .inl f21)), (m5, .inl (k 1, 1000, .inl f5)), (mo, .inr (12, [.int v0, .ref m1, .ref m2, .ref m3, .ref m4, .ref m5, .int v6, .int o_258, .int o_259, .int o_260, .int o_261, .long o_262, .int o_263, .int o_264, .int v14, .int v15, .ref m16, .ref m17, .ref m18, .ref m19, .ref m20, .ref m21, .ref m22, .ref m23, .int v24, .ref m25, .ref m26, .ref m27, .ref m28, .ref m29, .int v30, .ref m31, .ref m32, .ref m33, .int v34, .int v35, .int v36, .ref m37, .ref m38, .ref m39, .ref m40, .long v41])), (m17, .inl (k 0, 30, .inl f17))] := hD
              generalize H1 = H at hP hS ⊢
              have hw_279 : (0 ≤ r_278.toInt ∧ r_278.toInt ≤ 2) ∧ (r_278 = f17 28) := hw
              obtain ⟨hw_280, hw_281⟩ := hw_279
              clear hw
              have zhr_278 : r_278.toInt = (f17 28).toInt := by rw [hw_281]
              refine lv_iadd hx hb dX12_line_163 ?_
              refine lv_topi (fun x_282 ex_282 => ?_)
              have zx_282 : x_282.toInt = 8 + r_278.toInt := by rw [ex_282]; exact z_add rfl rfl (by omega) (by omega)
              refine lv_imul hx hb dX12_line_164 ?_
              refine lv_topi (fun x_283 ex_283 => ?_)
              have zx_283 : x_283.toInt = 2 * x_282.toInt := by rw [ex_283]; exact z_mul rfl rfl (by omega) (by omega)
              refine lv_istore_n (lv' := [(1, .int x_283), (0, .ref mo)]) hx hb dX12_line_165 rfl hl (by decide) rfl (fun ls hl => ?_)
              refine lv_aload_n hx hb dX12_line_166 rfl (lv_at hl 1 rfl) ?_
              refine va_get (D := D) (ci := 12) (v := .ref m21) (C := RX12) (T := TX12) (N := 42) hx hb hts iT_X12 hown hK hP 5 rfl rfl 21 (by decide) (hts _ tw_6_74) (fun _ h9 => h9) rfl dX12_line_167 ?_
              refine lv_iload_n hx hb dX12_line_170 rfl (lv_at hl 0 rfl) ?_
              refine lv_aload_n hx hb dX12_line_171 rfl (lv_at hl 1 rfl) ?_
              obtain ⟨hPc, hDc, hFc⟩ := sub3 hP hD hS hA (ws' := [(mo, .inr (12, [.int v0, .ref m1, .ref m2, .ref m3, .ref m4, .ref m5, .int v6, .int o_258, .int o_259, .int o_260, .int o_261, .long o_262, .int o_263, .int o_264, .int v14, .int v15, .ref m16, .ref m17, .ref m18, .ref m19, .ref m20, .ref m21, .ref m22, .ref m23, .int v24, .ref m25, .ref m26, .ref m27, .ref m28, .ref m29, .int v30, .ref m31, .ref m32, .ref m33, .int v34, .int v35, .int v36, .ref m37, .ref m38, .ref m39, .ref m40, .long v41])), (m5, .inl (k 1, 1000, .inl f5)), (m17, .inl (k 0, 30, .inl f17))]) [5, 4, 6] (by decide +kernel) rfl
              refine va_calli (va_runV (C := RX12) (As := []) (rest := [.int x_283, .ref m21]) ⟨hx, hb, hml, hown, hts⟩ (c_X12_streetAt l D k mo v0 m1 m2 m3 m4 m5 v6 o_258 o_259 o_260 o_261 o_262 o_263 o_264 v14 v15 m16 m17 m18 m19 m20 m21 m22 m23 v24 m25 m26 m27 m28 m29 v30 m31 m32 m33 v34 v35 v36 m37 m38 m39 m40 v41 f5 f17 H.size (show 0 ≤ v6.toInt ∧ v6.toInt ≤ 1000 from by omega) (show 0 ≤ o_258.toInt ∧ o_258.toInt ≤ 1000 from by omega) (show 0 ≤ v24.toInt ∧ v24.toInt ≤ 1023 from by omega) hp_f17_0 hp_f17_1 hp_f17_2 hp_f17_3 hp_f17_4 hp_f17_5 (show o_258.toInt ≤ v6.toInt from by omega)) (cwV 0 hts (gV tw_7_63 tw_7_65 tw_p_53 tw_1_13 tw_7_66) rfl rfl rfl hdV_X12_streetAt ⟨Nat.le_of_ble_eq_true rfl, Nat.le_of_ble_eq_true rfl⟩) (cz_V hK hPc hDc hN (ci := 12) (q0 := 0) rfl rfl []) rfl rfl hl.1 rfl (lv_room (Nat.le_of_ble_eq_true rfl)) dX12_line_172 ⟨Nat.le_of_ble_eq_true rfl, Nat.le_of_ble_eq_true rfl⟩) hS (fun q _ h => hFc q h) hFc (fun r_284 uZ tZ H1 locs ht hvm hw hB hz1 hk1 hS => ?_)
              obtain ⟨o_285, o_286, o_287, o_288, o_289, o_290, o_291⟩ := uZ
              obtain ⟨hP1, hK1, hD1⟩ := hB
              rw [ht] at hP1
              obtain ⟨hP, hD⟩ := va_join (wr := [(m18, .inl (k 0, 250, .inl f18)), (m19, .inl (k 0, 40, .inl f19)), (m20, .inl (k 0, 120, .inl f20)), (m21, .inl (k 0, 20, .inl f21))]) (w1 := [(mo, .inr (12, [.int v0, .ref m1, .ref m2, .ref m3, .ref m4, .ref m5, .int v6, .int o_285, .int o_286, .int o_287, .int o_288, .long o_289, .int o_290, .int o_291, .int v14, .int v15, .ref m16, .ref m17, .ref m18, .ref m19, .ref m20, .ref m21, .ref m22, .ref m23, .int v24, .ref m25, .ref m26, .ref m27, .ref m28, .ref m29, .int v30, .ref m31, .ref m32, .ref m33, .int v34, .int v35, .int v36, .ref m37, .ref m38, .ref m39, .ref m40, .long v41])), (m5, .inl (k 1, 1000, .inl f5)), (m17, .inl (k 0, 30, .inl f17))]) hP hD [5, 4, 6] [0, 1, 2, 3] rfl rfl (by decide +kernel) (by decide +kernel) hk1 hFc hP1 hD1
              clear hK1 hP1 hD1 hPc hDc hFc
              clear hk1 hz1 ht hvm
              have hP : va_P D vwCl [(m18, .inl (k 0, 250, .inl f18)), (m19, .inl (k 0, 40, .inl f19)), (m20, .inl (k 0, 120, .inl f20)), (m21, .inl (k 0, 20, .inl f21)), (mo, .inr (12, [.int v0, .ref m1, .ref m2, .ref m3, .ref m4, .ref m5, .int v6, .int o_285, .int o_286, .int o_287, .int o_288, .long o_289, .int o_290, .int o_291, .int v14, .int v15, .ref m16, .ref m17, .ref m18, .ref m19, .ref m20, .ref m21, .ref m22, .ref m23, .int v24, .ref m25, .ref m26, .ref m27, .ref m28, .ref m29, .int v30, .ref m31, .ref m32, .ref m33, .int v34, .int v35, .int v36, .ref m37, .ref m38, .ref m39, .ref m40, .long v41])), (m5, .inl (k 1, 1000, .inl f5)), (m17, .inl (k 0, 30, .inl f17))] H1 := hP
              have hD : va_D A [(m18, .inl (k 0, 250, .inl f18)), (m19, .inl (k 0, 40, .inl f19)), (m20, .inl (k 0, 120, .inl f20)), (m21, .inl (k 0, 20, .inl f21)), (mo, .inr (12, [.int v0, .ref m1, .ref m2, .ref m3, .ref m4, .ref m5, .int v6, .int o_285, .int o_286, .int o_287, .int o_288, .long o_289, .int o_290, .int o_291, .int v14, .int v15, .ref m16, .ref m17, .ref m18, .ref m19, .ref m20, .ref m21, .ref m22, .ref m23, .int v24, .ref m25, .ref m26, .ref m27, .ref m28, .ref m29, .int v30, .ref m31, .ref m32, .ref m33, .int v34, .int v35, .int v36, .ref m37, .ref m38, .ref m39, .ref m40, .long v41])), (m5, .inl (k 1, 1000, .inl f5)), (m17, .inl (k 0, 30, .inl f17))] := hD
              generalize H1 = H at hP hS ⊢
              have hw_292 : (0 ≤ r_284.toInt ∧ r_284.toInt ≤ 7) ∧ (0 ≤ o_285.toInt ∧ o_285.toInt ≤ 1000) ∧ (o_258.toInt ≤ o_285.toInt ∧ o_285.toInt ≤ v6.toInt) := hw
              obtain ⟨hw_293, hw_294, hw_295⟩ := hw_292
              clear hw
              refine va_iast hx hb hK hP hD hS 3 0 rfl rfl (z_in (by omega) (by omega)) dX12_line_175 (fun H locs hP hD hS => ?_)
              obtain ⟨g_296, eg_296⟩ : ∃ z : Nat → Int32, upd f21 x_283.toNatClampNeg r_284 = z := ⟨_, rfl⟩
              have hP : va_P D vwCl [(m18, .inl (k 0, 250, .inl f18)), (m19, .inl (k 0, 40, .inl f19)), (m20, .inl (k 0, 120, .inl f20)), (m21, .inl (k 0, 20, .inl (upd f21 x_283.toNatClampNeg r_284))), (mo, .inr (12, [.int v0, .ref m1, .ref m2, .ref m3, .ref m4, .ref m5, .int v6, .int o_285, .int o_286, .int o_287, .int o_288, .long o_289, .int o_290, .int o_291, .int v14, .int v15, .ref m16, .ref m17, .ref m18, .ref m19, .ref m20, .ref m21, .ref m22, .ref m23, .int v24, .ref m25, .ref m26, .ref m27, .ref m28, .ref m29, .int v30, .ref m31, .ref m32, .ref m33, .int v34, .int v35, .int v36, .ref m37, .ref m38, .ref m39, .ref m40, .long v41])), (m5, .inl (k 1, 1000, .inl f5)), (m17, .inl (k 0, 30, .inl f17))] H := hP
              have hD : va_D A [(m18, .inl (k 0, 250, .inl f18)), (m19, .inl (k 0, 40, .inl f19)), (m20, .inl (k 0, 120, .inl f20)), (m21, .inl (k 0, 20, .inl (upd f21 x_283.toNatClampNeg r_284))), (mo, .inr (12, [.int v0, .ref m1, .ref m2, .ref m3, .ref m4, .ref m5, .int v6, .int o_285, .int o_286, .int o_287, .int o_288, .long o_289, .int o_290, .int o_291, .int v14, .int v15, .ref m16, .ref m17, .ref m18, .ref m19, .ref m20, .ref m21, .ref m22, .ref m23, .int v24, .ref m25, .ref m26, .ref m27, .ref m28, .ref m29, .int v30, .ref m31, .ref m32, .ref m33, .int v34, .int v35, .int v36, .ref m37, .ref m38, .ref m39, .ref m40, .long v41])), (m5, .inl (k 1, 1000, .inl f5)), (m17, .inl (k 0, 30, .inl f17))] := hD
              rw [eg_296] at hP hD
              have hp_297 : PR 20 2 0 0 7 g_296 := by rw [← eg_296]; exact PR.put hp_f21_0 ⟨by omega, by omega⟩
              have hp_298 : PR 20 2 1 0 999 g_296 := by rw [← eg_296]; exact PR.other hp_f21_1 (z_clm (by omega) (by omega))
              refine lv_aload_n hx hb dX12_line_176 rfl (lv_at hl 1 rfl) ?_
              refine va_get (D := D) (ci := 12) (v := .ref m21) (C := RX12) (T := TX12) (N := 42) hx hb hts iT_X12 hown hK hP 4 rfl rfl 21 (by decide) (hts _ tw_6_74) (fun _ h9 => h9) rfl dX12_line_177 ?_
              refine lv_iload_n hx hb dX12_line_180 rfl (lv_at hl 0 rfl) ?_
              refine lv_iconst (v := 1) hx hb dX12_line_181 (by decide) ?_
              refine lv_iadd hx hb dX12_line_182 ?_
              refine lv_topi (fun x_299 ex_299 => ?_)
              have zx_299 : x_299.toInt = x_283.toInt + 1 := by rw [ex_299]; exact z_add rfl rfl (by omega) (by omega)
              refine lv_aload_n hx hb dX12_line_183 rfl (lv_at hl 1 rfl) ?_
              refine lv_ldc2 (v := 131638) hx hb hown (hts _ tw_7_78) dX12_line_184 ?_
              refine lv_iconst (v := 0) hx hb dX12_line_187 (by decide) ?_
              refine lv_sipush (v := 999) hx hb dX12_line_188 (by decide) ?_
              obtain ⟨hPc, hDc, hFc⟩ := sub3 hP hD hS hA (ws' := [(mo, .inr (12, [.int v0, .ref m1, .ref m2, .ref m3, .ref m4, .ref m5, .int v6, .int o_285, .int o_286, .int o_287, .int o_288, .long o_289, .int o_290, .int o_291, .int v14, .int v15, .ref m16, .ref m17, .ref m18, .ref m19, .ref m20, .ref m21, .ref m22, .ref m23, .int v24, .ref m25, .ref m26, .ref m27, .ref m28, .ref m29, .int v30, .ref m31, .ref m32, .ref m33, .int v34, .int v35, .int v36, .ref m37, .ref m38, .ref m39, .ref m40, .long v41])), (m5, .inl (k 1, 1000, .inl f5))]) [4, 5] (by decide +kernel) rfl
              refine va_calli (va_runV (C := RX12) (As := [.long 131638, .int 0, .int 999]) (rest := [.int x_299, .ref m21]) ⟨hx, hb, hml, hown, hts⟩ (c_X12_number_ l D k mo 131638 0 999 v0 m1 m2 m3 m4 m5 v6 o_285 o_286 o_287 o_288 o_289 o_290 o_291 v14 v15 m16 m17 m18 m19 m20 m21 m22 m23 v24 m25 m26 m27 m28 m29 v30 m31 m32 m33 v34 v35 v36 m37 m38 m39 m40 v41 f5 H.size (show 0 ≤ v6.toInt ∧ v6.toInt ≤ 1000 from by omega) (show 0 ≤ o_285.toInt ∧ o_285.toInt ≤ 1000 from by omega) (show 0 ≤ v24.toInt ∧ v24.toInt ≤ 1023 from by omega) (show o_285.toInt ≤ v6.toInt from by omega)) (cwV 3 hts (gV tw_7_29 tw_7_31 tw_p_46 tw_1_13 tw_7_32) rfl rfl rfl hdV_X12_number_ ⟨Nat.le_of_ble_eq_true rfl, Nat.le_of_ble_eq_true rfl⟩) (cz_V hK hPc hDc hN (ci := 12) (q0 := 0) rfl rfl [.long 131638, .int 0, .int 999]) rfl rfl hl.1 rfl (lv_room (Nat.le_of_ble_eq_true rfl)) dX12_line_191 ⟨Nat.le_of_ble_eq_true rfl, Nat.le_of_ble_eq_true rfl⟩) hS (fun q _ h => hFc q h) hFc (fun r_300 uZ tZ H1 locs ht hvm hw hB hz1 hk1 hS => ?_)
              obtain ⟨o_301, o_302, o_303, o_304, o_305, o_306, o_307⟩ := uZ
              obtain ⟨hP1, hK1, hD1⟩ := hB
              rw [ht] at hP1
              obtain ⟨hP, hD⟩ := va_join (wr := [(m18, .inl (k 0, 250, .inl f18)), (m19, .inl (k 0, 40, .inl f19)), (m20, .inl (k 0, 120, .inl f20)), (m21, .inl (k 0, 20, .inl g_296)), (m17, .inl (k 0, 30, .inl f17))]) (w1 := [(mo, .inr (12, [.int v0, .ref m1, .ref m2, .ref m3, .ref m4, .ref m5, .int v6, .int o_301, .int o_302, .int o_303, .int o_304, .long o_305, .int o_306, .int o_307, .int v14, .int v15, .ref m16, .ref m17, .ref m18, .ref m19, .ref m20, .ref m21, .ref m22, .ref m23, .int v24, .ref m25, .ref m26, .ref m27, .ref m28, .ref m29, .int v30, .ref m31, .ref m32, .ref m33, .int v34, .int v35, .int v36, .ref m37, .ref m38, .ref m39, .ref m40, .long v41])), (m5, .inl (k 1, 1000, .inl f5))]) hP hD [4, 5] [0, 1, 2, 3, 6] rfl rfl (by decide +kernel) (by decide +kernel) hk1 hFc hP1 hD1
              clear hK1 hP1 hD1 hPc hDc hFc
              clear hk1 hz1 ht hvm
              have hP : va_P D vwCl [(m18, .inl (k 0, 250, .inl f18)), (m19, .inl (k 0, 40, .inl f19)), (m20, .inl (k 0, 120, .inl f20)), (m21, .inl (k 0, 20, .inl g_296)), (m17, .inl (k 0, 30, .inl f17)), (mo, .inr (12, [.int v0, .ref m1, .ref m2, .ref m3, .ref m4, .ref m5, .int v6, .int o_301, .int o_302, .int o_303, .int o_304, .long o_305, .int o_306, .int o_307, .int v14, .int v15, .ref m16, .ref m17, .ref m18, .ref m19, .ref m20, .ref m21, .ref m22, .ref m23, .int v24, .ref m25, .ref m26, .ref m27, .ref m28, .ref m29, .int v30, .ref m31, .ref m32, .ref m33, .int v34, .int v35, .int v36, .ref m37, .ref m38, .ref m39, .ref m40, .long v41])), (m5, .inl (k 1, 1000, .inl f5))] H1 := hP
              have hD : va_D A [(m18, .inl (k 0, 250, .inl f18)), (m19, .inl (k 0, 40, .inl f19)), (m20, .inl (k 0, 120, .inl f20)), (m21, .inl (k 0, 20, .inl g_296)), (m17, .inl (k 0, 30, .inl f17)), (mo, .inr (12, [.int v0, .ref m1, .ref m2, .ref m3, .ref m4, .ref m5, .int v6, .int o_301, .int o_302, .int o_303, .int o_304, .long o_305, .int o_306, .int o_307, .int v14, .int v15, .ref m16, .ref m17, .ref m18, .ref m19, .ref m20, .ref m21, .ref m22, .ref m23, .int v24, .ref m25, .ref m26, .ref m27, .ref m28, .ref m29, .int v30, .ref m31, .ref m32, .ref m33, .int v34, .int v35, .int v36, .ref m37, .ref m38, .ref m39, .ref m40, .long v41])), (m5, .inl (k 1, 1000, .inl f5))] := hD
              generalize H1 = H at hP hS ⊢
              have hw_308 : (0 ≤ o_301.toInt ∧ o_301.toInt ≤ 1000) ∧ (o_285.toInt ≤ o_301.toInt ∧ o_301.toInt ≤ v6.toInt) ∧ (r_300.toInt = 0 ∨ (0 ≤ r_300.toInt ∧ r_300.toInt ≤ 999)) := hw
              obtain ⟨hw_309, hw_310, hw_311⟩ := hw_308
              clear hw
              refine va_iast hx hb hK hP hD hS 3 0 rfl rfl (z_in (by omega) (by omega)) dX12_line_194 (fun H locs hP hD hS => ?_)
              obtain ⟨g_312, eg_312⟩ : ∃ z : Nat → Int32, upd g_296 x_299.toNatClampNeg r_300 = z := ⟨_, rfl⟩
              have hP : va_P D vwCl [(m18, .inl (k 0, 250, .inl f18)), (m19, .inl (k 0, 40, .inl f19)), (m20, .inl (k 0, 120, .inl f20)), (m21, .inl (k 0, 20, .inl (upd g_296 x_299.toNatClampNeg r_300))), (m17, .inl (k 0, 30, .inl f17)), (mo, .inr (12, [.int v0, .ref m1, .ref m2, .ref m3, .ref m4, .ref m5, .int v6, .int o_301, .int o_302, .int o_303, .int o_304, .long o_305, .int o_306, .int o_307, .int v14, .int v15, .ref m16, .ref m17, .ref m18, .ref m19, .ref m20, .ref m21, .ref m22, .ref m23, .int v24, .ref m25, .ref m26, .ref m27, .ref m28, .ref m29, .int v30, .ref m31, .ref m32, .ref m33, .int v34, .int v35, .int v36, .ref m37, .ref m38, .ref m39, .ref m40, .long v41])), (m5, .inl (k 1, 1000, .inl f5))] H := hP
              have hD : va_D A [(m18, .inl (k 0, 250, .inl f18)), (m19, .inl (k 0, 40, .inl f19)), (m20, .inl (k 0, 120, .inl f20)), (m21, .inl (k 0, 20, .inl (upd g_296 x_299.toNatClampNeg r_300))), (m17, .inl (k 0, 30, .inl f17)), (mo, .inr (12, [.int v0, .ref m1, .ref m2, .ref m3, .ref m4, .ref m5, .int v6, .int o_301, .int o_302, .int o_303, .int o_304, .long o_305, .int o_306, .int o_307, .int v14, .int v15, .ref m16, .ref m17, .ref m18, .ref m19, .ref m20, .ref m21, .ref m22, .ref m23, .int v24, .ref m25, .ref m26, .ref m27, .ref m28, .ref m29, .int v30, .ref m31, .ref m32, .ref m33, .int v34, .int v35, .int v36, .ref m37, .ref m38, .ref m39, .ref m40, .long v41])), (m5, .inl (k 1, 1000, .inl f5))] := hD
              rw [eg_312] at hP hD
              have hp_313 : PR 20 2 0 0 7 g_312 := by rw [← eg_312]; exact PR.other hp_297 (z_clm (by omega) (by omega))
              have hp_314 : PR 20 2 1 0 999 g_312 := by rw [← eg_312]; exact PR.put hp_298 ⟨by omega, by omega⟩
              refine lv_aload_n hx hb dX12_line_195 rfl (lv_at hl 1 rfl) ?_
              refine lv_iconst (v := 4) hx hb dX12_line_196 (by decide) ?_
              refine lv_aload_n hx hb dX12_line_197 rfl (lv_at hl 1 rfl) ?_
              refine lv_iconst (v := 4) hx hb dX12_line_198 (by decide) ?_
              obtain ⟨hPc, hDc, hFc⟩ := sub3 hP hD hS hA (ws' := [(mo, .inr (12, [.int v0, .ref m1, .ref m2, .ref m3, .ref m4, .ref m5, .int v6, .int o_301, .int o_302, .int o_303, .int o_304, .long o_305, .int o_306, .int o_307, .int v14, .int v15, .ref m16, .ref m17, .ref m18, .ref m19, .ref m20, .ref m21, .ref m22, .ref m23, .int v24, .ref m25, .ref m26, .ref m27, .ref m28, .ref m29, .int v30, .ref m31, .ref m32, .ref m33, .int v34, .int v35, .int v36, .ref m37, .ref m38, .ref m39, .ref m40, .long v41])), (m17, .inl (k 0, 30, .inl f17))]) [5, 4] (by decide +kernel) rfl
              refine va_calli (va_runV (C := RX12) (As := [.int 4]) (rest := [.int 4, .ref mo]) ⟨hx, hb, hml, hown, hts⟩ (c_X12_hasRead_4 l D k mo v0 m1 m2 m3 m4 m5 v6 o_301 o_302 o_303 o_304 o_305 o_306 o_307 v14 v15 m16 m17 m18 m19 m20 m21 m22 m23 v24 m25 m26 m27 m28 m29 v30 m31 m32 m33 v34 v35 v36 m37 m38 m39 m40 v41 f17 H.size (show 0 ≤ v6.toInt ∧ v6.toInt ≤ 1000 from by omega) (show 0 ≤ v24.toInt ∧ v24.toInt ≤ 1023 from by omega) hp_f17_0 hp_f17_1 hp_f17_2 hp_f17_3 hp_f17_4 hp_f17_5) (cwV 1 hts (gV tw_7_46 tw_7_48 tw_p_50 tw_1_13 tw_7_49) rfl rfl rfl hdV_X12_hasRead ⟨Nat.le_of_ble_eq_true rfl, Nat.le_of_ble_eq_true rfl⟩) (cz_V hK hPc hDc hN (ci := 12) (q0 := 0) rfl rfl [.int 4]) rfl rfl hl.1 rfl (lv_room (Nat.le_of_ble_eq_true rfl)) dX12_line_199 ⟨Nat.le_of_ble_eq_true rfl, Nat.le_of_ble_eq_true rfl⟩) hS (fun q _ h => hFc q h) hFc (fun r_315 uZ tZ H1 locs ht hvm hw hB hz1 hk1 hS => ?_)
              obtain ⟨hP1, hK1, hD1⟩ := hB
              rw [ht] at hP1
              obtain ⟨hP, hD⟩ := va_join (wr := [(m18, .inl (k 0, 250, .inl f18)), (m19, .inl (k 0, 40, .inl f19)), (m20, .inl (k 0, 120, .inl f20)), (m21, .inl (k 0, 20, .inl g_312)), (m5, .inl (k 1, 1000, .inl f5))]) (w1 := [(mo, .inr (12, [.int v0, .ref m1, .ref m2, .ref m3, .ref m4, .ref m5, .int v6, .int o_301, .int o_302, .int o_303, .int o_304, .long o_305, .int o_306, .int o_307, .int v14, .int v15, .ref m16, .ref m17, .ref m18, .ref m19, .ref m20, .ref m21, .ref m22, .ref m23, .int v24, .ref m25, .ref m26, .ref m27, .ref m28, .ref m29, .int v30, .ref m31, .ref m32, .ref m33, .int v34, .int v35, .int v36, .ref m37, .ref m38, .ref m39, .ref m40, .long v41])), (m17, .inl (k 0, 30, .inl f17))]) hP hD [5, 4] [0, 1, 2, 3, 6] rfl rfl (by decide +kernel) (by decide +kernel) hk1 hFc hP1 hD1
              clear hK1 hP1 hD1 hPc hDc hFc
              clear hk1 hz1 ht hvm
              have hP : va_P D vwCl [(m18, .inl (k 0, 250, .inl f18)), (m19, .inl (k 0, 40, .inl f19)), (m20, .inl (k 0, 120, .inl f20)), (m21, .inl (k 0, 20, .inl g_312)), (m5, .inl (k 1, 1000, .inl f5)), (mo, .inr (12, [.int v0, .ref m1, .ref m2, .ref m3, .ref m4, .ref m5, .int v6, .int o_301, .int o_302, .int o_303, .int o_304, .long o_305, .int o_306, .int o_307, .int v14, .int v15, .ref m16, .ref m17, .ref m18, .ref m19, .ref m20, .ref m21, .ref m22, .ref m23, .int v24, .ref m25, .ref m26, .ref m27, .ref m28, .ref m29, .int v30, .ref m31, .ref m32, .ref m33, .int v34, .int v35, .int v36, .ref m37, .ref m38, .ref m39, .ref m40, .long v41])), (m17, .inl (k 0, 30, .inl f17))] H1 := hP
              have hD : va_D A [(m18, .inl (k 0, 250, .inl f18)), (m19, .inl (k 0, 40, .inl f19)), (m20, .inl (k 0, 120, .inl f20)), (m21, .inl (k 0, 20, .inl g_312)), (m5, .inl (k 1, 1000, .inl f5)), (mo, .inr (12, [.int v0, .ref m1, .ref m2, .ref m3, .ref m4, .ref m5, .int v6, .int o_301, .int o_302, .int o_303, .int o_304, .long o_305, .int o_306, .int o_307, .int v14, .int v15, .ref m16, .ref m17, .ref m18, .ref m19, .ref m20, .ref m21, .ref m22, .ref m23, .int v24, .ref m25, .ref m26, .ref m27, .ref m28, .ref m29, .int v30, .ref m31, .ref m32, .ref m33, .int v34, .int v35, .int v36, .ref m37, .ref m38, .ref m39, .ref m40, .long v41])), (m17, .inl (k 0, 30, .inl f17))] := hD
              generalize H1 = H at hP hS ⊢
              have hw_316 : (0 ≤ r_315.toInt ∧ r_315.toInt ≤ 2) ∧ (r_315 = f17 28) := hw
              obtain ⟨hw_317, hw_318⟩ := hw_316
              clear hw
              obtain rfl : r_278 = r_315 := hw_281.trans hw_318.symm
              refine lv_iconst (v := 1) hx hb dX12_line_202 (by decide) ?_
              refine lv_iadd hx hb dX12_line_203 ?_
              refine lv_topi (fun x_319 ex_319 => ?_)
              have zx_319 : x_319.toInt = r_278.toInt + 1 := by rw [ex_319]; exact z_add rfl rfl (by omega) (by omega)
              obtain ⟨hPc, hDc, hFc⟩ := sub3 hP hD hS hA (ws' := [(mo, .inr (12, [.int v0, .ref m1, .ref m2, .ref m3, .ref m4, .ref m5, .int v6, .int o_301, .int o_302, .int o_303, .int o_304, .long o_305, .int o_306, .int o_307, .int v14, .int v15, .ref m16, .ref m17, .ref m18, .ref m19, .ref m20, .ref m21, .ref m22, .ref m23, .int v24, .ref m25, .ref m26, .ref m27, .ref m28, .ref m29, .int v30, .ref m31, .ref m32, .ref m33, .int v34, .int v35, .int v36, .ref m37, .ref m38, .ref m39, .ref m40, .long v41])), (m17, .inl (k 0, 30, .inl f17))]) [5, 6] (by decide +kernel) rfl
              refine va_callv (va_runV (C := RX12) (As := [.int 4, .int x_319]) (rest := []) ⟨hx, hb, hml, hown, hts⟩ (c_X12_tells_5 l D k mo x_319 v0 m1 m2 m3 m4 m5 v6 o_301 o_302 o_303 o_304 o_305 o_306 o_307 v14 v15 m16 m17 m18 m19 m20 m21 m22 m23 v24 m25 m26 m27 m28 m29 v30 m31 m32 m33 v34 v35 v36 m37 m38 m39 m40 v41 f17 H.size (show 0 ≤ x_319.toInt ∧ x_319.toInt ≤ 2 from by omega) (show 0 ≤ v6.toInt ∧ v6.toInt ≤ 1000 from by omega) (show 0 ≤ v24.toInt ∧ v24.toInt ≤ 1023 from by omega) hp_f17_0 hp_f17_1 hp_f17_2 hp_f17_3 hp_f17_4 hp_f17_5) (cwV 2 hts (gV tw_6_226 tw_6_228 tw_p_37 tw_1_13 tw_6_229) rfl rfl rfl hdV_X12_tells ⟨Nat.le_of_ble_eq_true rfl, Nat.le_of_ble_eq_true rfl⟩) (cz_V hK hPc hDc hN (ci := 12) (q0 := 0) rfl rfl [.int 4, .int x_319]) rfl rfl hl.1 rfl (lv_room (Nat.le_of_ble_eq_true rfl)) dX12_line_204 ⟨Nat.le_of_ble_eq_true rfl, Nat.le_of_ble_eq_true rfl⟩) hS (fun q _ h => hFc q h) hFc (fun uZ tZ H1 locs ht hvm hw hB hz1 hk1 hS => ?_)
              obtain ⟨o_321, rfl⟩ : ∃ z, z = uZ := ⟨_, rfl⟩
              obtain ⟨hP1, hK1, hD1⟩ := hB
              rw [ht] at hP1
              obtain ⟨hP, hD⟩ := va_join (wr := [(m18, .inl (k 0, 250, .inl f18)), (m19, .inl (k 0, 40, .inl f19)), (m20, .inl (k 0, 120, .inl f20)), (m21, .inl (k 0, 20, .inl g_312)), (m5, .inl (k 1, 1000, .inl f5))]) (w1 := [(mo, .inr (12, [.int v0, .ref m1, .ref m2, .ref m3, .ref m4, .ref m5, .int v6, .int o_301, .int o_302, .int o_303, .int o_304, .long o_305, .int o_306, .int o_307, .int v14, .int v15, .ref m16, .ref m17, .ref m18, .ref m19, .ref m20, .ref m21, .ref m22, .ref m23, .int v24, .ref m25, .ref m26, .ref m27, .ref m28, .ref m29, .int v30, .ref m31, .ref m32, .ref m33, .int v34, .int v35, .int v36, .ref m37, .ref m38, .ref m39, .ref m40, .long v41])), (m17, .inl (k 0, 30, .inl o_321))]) hP hD [5, 6] [0, 1, 2, 3, 4] rfl rfl (by decide +kernel) (by decide +kernel) hk1 hFc hP1 hD1
              clear hK1 hP1 hD1 hPc hDc hFc
              clear hk1 hz1 ht hvm
              have hP : va_P D vwCl [(m18, .inl (k 0, 250, .inl f18)), (m19, .inl (k 0, 40, .inl f19)), (m20, .inl (k 0, 120, .inl f20)), (m21, .inl (k 0, 20, .inl g_312)), (m5, .inl (k 1, 1000, .inl f5)), (mo, .inr (12, [.int v0, .ref m1, .ref m2, .ref m3, .ref m4, .ref m5, .int v6, .int o_301, .int o_302, .int o_303, .int o_304, .long o_305, .int o_306, .int o_307, .int v14, .int v15, .ref m16, .ref m17, .ref m18, .ref m19, .ref m20, .ref m21, .ref m22, .ref m23, .int v24, .ref m25, .ref m26, .ref m27, .ref m28, .ref m29, .int v30, .ref m31, .ref m32, .ref m33, .int v34, .int v35, .int v36, .ref m37, .ref m38, .ref m39, .ref m40, .long v41])), (m17, .inl (k 0, 30, .inl o_321))] H1 := hP
              have hD : va_D A [(m18, .inl (k 0, 250, .inl f18)), (m19, .inl (k 0, 40, .inl f19)), (m20, .inl (k 0, 120, .inl f20)), (m21, .inl (k 0, 20, .inl g_312)), (m5, .inl (k 1, 1000, .inl f5)), (mo, .inr (12, [.int v0, .ref m1, .ref m2, .ref m3, .ref m4, .ref m5, .int v6, .int o_301, .int o_302, .int o_303, .int o_304, .long o_305, .int o_306, .int o_307, .int v14, .int v15, .ref m16, .ref m17, .ref m18, .ref m19, .ref m20, .ref m21, .ref m22, .ref m23, .int v24, .ref m25, .ref m26, .ref m27, .ref m28, .ref m29, .int v30, .ref m31, .ref m32, .ref m33, .int v34, .int v35, .int v36, .ref m37, .ref m38, .ref m39, .ref m40, .long v41])), (m17, .inl (k 0, 30, .inl o_321))] := hD
              generalize H1 = H at hP hS ⊢
              have hw_322 : (PR 30 6 0 0 8 o_321) ∧ (PR 30 6 1 0 10 o_321) ∧ (PR 30 6 2 0 4 o_321) ∧ (PR 30 6 3 0 6 o_321) ∧ (PR 30 6 4 0 2 o_321) ∧ (PR 30 6 5 0 40 o_321) ∧ (o_321 = upd f17 28 x_319) := hw
              obtain ⟨hw_323, hw_324, hw_325, hw_326, hw_327, hw_328, hw_329⟩ := hw_322
              clear hw
              have tk_330 : TK o_321 f18 := by rw [hw_329]; exact TK.other hTK (by decide)
              refine lv_goto (tgt := 222) hx hb dX12_line_207 (by decide) ?_
              obtain ⟨hP9, hD9⟩ := sub2 hP hD (ws' := [(mo, .inr (12, [.int v0, .ref m1, .ref m2, .ref m3, .ref m4, .ref m5, .int v6, .int o_301, .int o_302, .int o_303, .int o_304, .long o_305, .int o_306, .int o_307, .int v14, .int v15, .ref m16, .ref m17, .ref m18, .ref m19, .ref m20, .ref m21, .ref m22, .ref m23, .int v24, .ref m25, .ref m26, .ref m27, .ref m28, .ref m29, .int v30, .ref m31, .ref m32, .ref m33, .int v34, .int v35, .int v36, .ref m37, .ref m38, .ref m39, .ref m40, .long v41])), (m5, .inl (k 1, 1000, .inl f5)), (m17, .inl (k 0, 30, .inl o_321)), (m18, .inl (k 0, 250, .inl f18)), (m19, .inl (k 0, 40, .inl f19)), (m20, .inl (k 0, 120, .inl f20)), (m21, .inl (k 0, 20, .inl g_312))]) [5, 4, 6, 0, 1, 2, 3] (by decide +kernel) rfl
              exact W.vret hx hb hr (fun tZ ht hW => ⟨⟨(o_301, o_302, o_303, o_304, o_305, o_306, o_307, o_321, g_312, f20, f19, f18), rfl, ⟨(show 0 ≤ o_301.toInt ∧ o_301.toInt ≤ 1000 from by omega), hw_323, hw_324, hw_325, hw_326, hw_327, hw_328, hp_313, hp_314, hp_f20_0, hp_f19_0, hp_f19_1, hp_f18_0, hp_f18_1, hp_f18_2, hp_f18_3, (show v7.toInt ≤ o_301.toInt ∧ o_301.toInt ≤ v6.toInt from by omega), tk_330⟩, by rw [ht]; exact hP9, va_K.moved hW.alike hK, hD9⟩, hS.F ht⟩) hS.2.2 dX12_line_222
        · skip
          have zh_246 : o_237.toInt = 0 := z_eq h_246
          refine lv_aload_n hx hb dX12_line_108 rfl (lv_at hl 0 rfl) ?_
          refine lv_aload_n hx hb dX12_line_109 rfl (lv_at hl 0 rfl) ?_
          refine lv_ldc2 (v := 4562600) hx hb hown (hts _ tw_7_69) dX12_line_110 ?_
          obtain ⟨hPc, hDc, hFc⟩ := sub3 hP hD hS hA (ws' := [(mo, .inr (12, [.int v0, .ref m1, .ref m2, .ref m3, .ref m4, .ref m5, .int v6, .int o_232, .int o_233, .int o_234, .int o_235, .long o_236, .int o_237, .int o_238, .int v14, .int v15, .ref m16, .ref m17, .ref m18, .ref m19, .ref m20, .ref m21, .ref m22, .ref m23, .int v24, .ref m25, .ref m26, .ref m27, .ref m28, .ref m29, .int v30, .ref m31, .ref m32, .ref m33, .int v34, .int v35, .int v36, .ref m37, .ref m38, .ref m39, .ref m40, .long v41]))]) [4] (by decide +kernel) rfl
          refine va_calli (va_runV (C := RX12) (As := [.long 4562600]) (rest := [.ref mo]) ⟨hx, hb, hml, hown, hts⟩ (c_X12_is l D k mo 4562600 v0 m1 m2 m3 m4 m5 v6 o_232 o_233 o_234 o_235 o_236 o_237 o_238 v14 v15 m16 m17 m18 m19 m20 m21 m22 m23 v24 m25 m26 m27 m28 m29 v30 m31 m32 m33 v34 v35 v36 m37 m38 m39 m40 v41 H.size (show 0 ≤ v6.toInt ∧ v6.toInt ≤ 1000 from by omega) (show 0 ≤ v24.toInt ∧ v24.toInt ≤ 1023 from by omega)) (cwV 1 hts (gV tw_7_20 tw_7_22 tw_p_44 tw_1_13 tw_7_23) rfl rfl rfl hdV_X12_is ⟨Nat.le_of_ble_eq_true rfl, Nat.le_of_ble_eq_true rfl⟩) (cz_V hK hPc hDc hN (ci := 12) (q0 := 0) rfl rfl [.long 4562600]) rfl rfl hl.1 rfl (lv_room (Nat.le_of_ble_eq_true rfl)) dX12_line_113 ⟨Nat.le_of_ble_eq_true rfl, Nat.le_of_ble_eq_true rfl⟩) hS (fun q _ h => hFc q h) hFc (fun r_331 uZ tZ H1 locs ht hvm hw hB hz1 hk1 hS => ?_)
          obtain ⟨hP1, hK1, hD1⟩ := hB
          rw [ht] at hP1
          obtain ⟨hP, hD⟩ := va_join (wr := [(m18, .inl (k 0, 250, .inl f18)), (m19, .inl (k 0, 40, .inl f19)), (m20, .inl (k 0, 120, .inl f20)), (m21, .inl (k 0, 20, .inl f21)), (m5, .inl (k 1, 1000, .inl f5)), (m17, .inl (k 0, 30, .inl f17))]) (w1 := [(mo, .inr (12, [.int v0, .ref m1, .ref m2, .ref m3, .ref m4, .ref m5, .int v6, .int o_232, .int o_233, .int o_234, .int o_235, .long o_236, .int o_237, .int o_238, .int v14, .int v15, .ref m16, .ref m17, .ref m18, .ref m19, .ref m20, .ref m21, .ref m22, .ref m23, .int v24, .ref m25, .ref m26, .ref m27, .ref m28, .ref m29, .int v30, .ref m31, .ref m32, .ref m33, .int v34, .int v35, .int v36, .ref m37, .ref m38, .ref m39, .ref m40, .long v41]))]) hP hD [4] [0, 1, 2, 3, 5, 6] rfl rfl (by decide +kernel) (by decide +kernel) hk1 hFc hP1 hD1
          clear hK1 hP1 hD1 hPc hDc hFc
          clear hk1 hz1 ht hvm
          have hP : va_P D vwCl [(m18, .inl (k 0, 250, .inl f18)), (m19, .inl (k 0, 40, .inl f19)), (m20, .inl (k 0, 120, .inl f20)), (m21, .inl (k 0, 20, .inl f21)), (m5, .inl (k 1, 1000, .inl f5)), (m17, .inl (k 0, 30, .inl f17)), (mo, .inr (12, [.int v0, .ref m1, .ref m2, .ref m3, .ref m4, .ref m5, .int v6, .int o_232, .int o_233, .int o_234, .int o_235, .long o_236, .int o_237, .int o_238, .int v14, .int v15, .ref m16, .ref m17, .ref m18, .ref m19, .ref m20, .ref m21, .ref m22, .ref m23, .int v24, .ref m25, .ref m26, .ref m27, .ref m28, .ref m29, .int v30, .ref m31, .ref m32, .ref m33, .int v34, .int v35, .int v36, .ref m37, .ref m38, .ref m39, .ref m40, .long v41]))] H1 := hP
          have hD : va_D A [(m18, .inl (k 0, 250, .inl f18)), (m19, .inl (k 0, 40, .inl f19)), (m20, .inl (k 0, 120, .inl f20)), (m21, .inl (k 0, 20, .inl f21)), (m5, .inl (k 1, 1000, .inl f5)), (m17, .inl (k 0, 30, .inl f17)), (mo, .inr (12, [.int v0, .ref m1, .ref m2, .ref m3, .ref m4, .ref m5, .int v6, .int o_232, .int o_233, .int o_234, .int o_235, .long o_236, .int o_237, .int o_238, .int v14, .int v15, .ref m16, .ref m17, .ref m18, .ref m19, .ref m20, .ref m21, .ref m22, .ref m23, .int v24, .ref m25, .ref m26, .ref m27, .ref m28, .ref m29, .int v30, .ref m31, .ref m32, .ref m33, .int v34, .int v35, .int v36, .ref m37, .ref m38, .ref m39, .ref m40, .long v41]))] := hD
          generalize H1 = H at hP hS ⊢
          have hw_332 : (0 ≤ r_331.toInt ∧ r_331.toInt ≤ 1) := hw
          have hw_333 := hw_332
          clear hw
          refine lv_iconst (v := 3) hx hb dX12_line_116 (by decide) ?_
          refine lv_bipush (v := 6) hx hb dX12_line_117 (by decide) ?_
          obtain ⟨hPc, hDc, hFc⟩ := sub3 hP hD hS hA (ws' := [(mo, .inr (12, [.int v0, .ref m1, .ref m2, .ref m3, .ref m4, .ref m5, .int v6, .int o_232, .int o_233, .int o_234, .int o_235, .long o_236, .int o_237, .int o_238, .int v14, .int v15, .ref m16, .ref m17, .ref m18, .ref m19, .ref m20, .ref m21, .ref m22, .ref m23, .int v24, .ref m25, .ref m26, .ref m27, .ref m28, .ref m29, .int v30, .ref m31, .ref m32, .ref m33, .int v34, .int v35, .int v36, .ref m37, .ref m38, .ref m39, .ref m40, .long v41])), (m5, .inl (k 1, 1000, .inl f5)), (m17, .inl (k 0, 30, .inl f17))]) [6, 4, 5] (by decide +kernel) rfl
          refine va_calli (va_runV (C := RX12) (As := [.int r_331, .int 3, .int 6]) (rest := []) ⟨hx, hb, hml, hown, hts⟩ (c_X12_isRoom_2 l D k mo r_331 v0 m1 m2 m3 m4 m5 v6 o_232 o_233 o_234 o_235 o_236 o_237 o_238 v14 v15 m16 m17 m18 m19 m20 m21 m22 m23 v24 m25 m26 m27 m28 m29 v30 m31 m32 m33 v34 v35 v36 m37 m38 m39 m40 v41 f5 f17 H.size (show 0 ≤ r_331.toInt ∧ r_331.toInt ≤ 1 from by omega) (show 0 ≤ v6.toInt ∧ v6.toInt ≤ 1000 from by omega) (show 0 ≤ o_232.toInt ∧ o_232.toInt ≤ 1000 from by omega) (show 0 ≤ v24.toInt ∧ v24.toInt ≤ 1023 from by omega) hp_f17_0 hp_f17_1 hp_f17_2 hp_f17_3 hp_f17_4 hp_f17_5 (show o_232.toInt ≤ v6.toInt from by omega)) (cwV 3 hts (gV tw_7_42 tw_7_44 tw_p_49 tw_1_13 tw_7_45) rfl rfl rfl hdV_X12_isRoom ⟨Nat.le_of_ble_eq_true rfl, Nat.le_of_ble_eq_true rfl⟩) (cz_V hK hPc hDc hN (ci := 12) (q0 := 0) rfl rfl [.int r_331, .int 3, .int 6]) rfl rfl hl.1 rfl (lv_room (Nat.le_of_ble_eq_true rfl)) dX12_line_119 ⟨Nat.le_of_ble_eq_true rfl, Nat.le_of_ble_eq_true rfl⟩) hS (fun q _ h => hFc q h) hFc (fun r_334 uZ tZ H1 locs ht hvm hw hB hz1 hk1 hS => ?_)
          obtain ⟨o_335, o_336, o_337, o_338, o_339, o_340, o_341⟩ := uZ
          obtain ⟨hP1, hK1, hD1⟩ := hB
          rw [ht] at hP1
          obtain ⟨hP, hD⟩ := va_join (wr := [(m18, .inl (k 0, 250, .inl f18)), (m19, .inl (k 0, 40, .inl f19)), (m20, .inl (k 0, 120, .inl f20)), (m21, .inl (k 0, 20, .inl f21))]) (w1 := [(mo, .inr (12, [.int v0, .ref m1, .ref m2, .ref m3, .ref m4, .ref m5, .int v6, .int o_335, .int o_336, .int o_337, .int o_338, .long o_339, .int o_340, .int o_341, .int v14, .int v15, .ref m16, .ref m17, .ref m18, .ref m19, .ref m20, .ref m21, .ref m22, .ref m23, .int v24, .ref m25, .ref m26, .ref m27, .ref m28, .ref m29, .int v30, .ref m31, .ref m32, .ref m33, .int v34, .int v35, .int v36, .ref m37, .ref m38, .ref m39, .ref m40, .long v41])), (m5, .inl (k 1, 1000, .inl f5)), (m17, .inl (k 0, 30, .inl f17))]) hP hD [6, 4, 5] [0, 1, 2, 3] rfl rfl (by decide +kernel) (by decide +kernel) hk1 hFc hP1 hD1
          clear hK1 hP1 hD1 hPc hDc hFc
          clear hk1 hz1 ht hvm
          have hP : va_P D vwCl [(m18, .inl (k 0, 250, .inl f18)), (m19, .inl (k 0, 40, .inl f19)), (m20, .inl (k 0, 120, .inl f20)), (m21, .inl (k 0, 20, .inl f21)), (mo, .inr (12, [.int v0, .ref m1, .ref m2, .ref m3, .ref m4, .ref m5, .int v6, .int o_335, .int o_336, .int o_337, .int o_338, .long o_339, .int o_340, .int o_341, .int v14, .int v15, .ref m16, .ref m17, .ref m18, .ref m19, .ref m20, .ref m21, .ref m22, .ref m23, .int v24, .ref m25, .ref m26, .ref m27, .ref m28, .ref m29, .int v30, .ref m31, .ref m32, .ref m33, .int v34, .int v35, .int v36, .ref m37, .ref m38, .ref m39, .ref m40, .long v41])), (m5, .inl (k 1, 1000, .inl f5)), (m17, .inl (k 0, 30, .inl f17))] H1 := hP
          have hD : va_D A [(m18, .inl (k 0, 250, .inl f18)), (m19, .inl (k 0, 40, .inl f19)), (m20, .inl (k 0, 120, .inl f20)), (m21, .inl (k 0, 20, .inl f21)), (mo, .inr (12, [.int v0, .ref m1, .ref m2, .ref m3, .ref m4, .ref m5, .int v6, .int o_335, .int o_336, .int o_337, .int o_338, .long o_339, .int o_340, .int o_341, .int v14, .int v15, .ref m16, .ref m17, .ref m18, .ref m19, .ref m20, .ref m21, .ref m22, .ref m23, .int v24, .ref m25, .ref m26, .ref m27, .ref m28, .ref m29, .int v30, .ref m31, .ref m32, .ref m33, .int v34, .int v35, .int v36, .ref m37, .ref m38, .ref m39, .ref m40, .long v41])), (m5, .inl (k 1, 1000, .inl f5)), (m17, .inl (k 0, 30, .inl f17))] := hD
          generalize H1 = H at hP hS ⊢
          have hw_342 : (0 ≤ r_334.toInt ∧ r_334.toInt ≤ 1) ∧ (0 ≤ o_335.toInt ∧ o_335.toInt ≤ 1000) ∧ (o_232.toInt ≤ o_335.toInt ∧ o_335.toInt ≤ v6.toInt) ∧ (r_334.toInt = 0 ∨ (f17 27).toInt ≤ 5) ∧ (r_334.toInt = 0 ∨ o_340.toInt = 0) := hw
          obtain ⟨hw_343, hw_344, hw_345, hw_346, hw_347⟩ := hw_342
          clear hw
          refine lv_if_eq (tgt := 132) hx hb dX12_line_122 (by decide) (fun h_348 => ?_) (fun h_348 => ?_)
          · skip
            have zh_348 : r_334.toInt = 0 := z_eq h_348
            refine lv_aload_n hx hb dX12_line_132 rfl (lv_at hl 0 rfl) ?_
            refine va_get (D := D) (ci := 12) (v := .int o_340) (C := RX12) (T := TX12) (N := 42) hx hb hts iT_X12 hown hK hP 4 rfl rfl 12 (by decide) (hts _ tw_6_65) (fun _ h9 => h9) rfl dX12_line_133 ?_
            refine lv_if_ne (tgt := 210) hx hb dX12_line_136 (by decide) (fun h_349 => ?_) (fun h_349 => ?_)
            · skip
              have zh_349 : ¬ o_340.toInt = 0 := z_ne h_349
              refine lv_aload_n hx hb dX12_line_210 rfl (lv_at hl 0 rfl) ?_
              refine va_get (D := D) (ci := 12) (v := .int o_340) (C := RX12) (T := TX12) (N := 42) hx hb hts iT_X12 hown hK hP 4 rfl rfl 12 (by decide) (hts _ tw_6_65) (fun _ h9 => h9) rfl dX12_line_211 ?_
              refine lv_if_ne (tgt := 222) hx hb dX12_line_214 (by decide) (fun h_350 => ?_) (fun h_350 => ?_)
              · skip
                have zh_350 : ¬ o_340.toInt = 0 := z_ne h_350
                obtain ⟨hP9, hD9⟩ := sub2 hP hD (ws' := [(mo, .inr (12, [.int v0, .ref m1, .ref m2, .ref m3, .ref m4, .ref m5, .int v6, .int o_335, .int o_336, .int o_337, .int o_338, .long o_339, .int o_340, .int o_341, .int v14, .int v15, .ref m16, .ref m17, .ref m18, .ref m19, .ref m20, .ref m21, .ref m22, .ref m23, .int v24, .ref m25, .ref m26, .ref m27, .ref m28, .ref m29, .int v30, .ref m31, .ref m32, .ref m33, .int v34, .int v35, .int v36, .ref m37, .ref m38, .ref m39, .ref m40, .long v41])), (m5, .inl (k 1, 1000, .inl f5)), (m17, .inl (k 0, 30, .inl f17)), (m18, .inl (k 0, 250, .inl f18)), (m19, .inl (k 0, 40, .inl f19)), (m20, .inl (k 0, 120, .inl f20)), (m21, .inl (k 0, 20, .inl f21))]) [4, 5, 6, 0, 1, 2, 3] (by decide +kernel) rfl
                exact W.vret hx hb hr (fun tZ ht hW => ⟨⟨(o_335, o_336, o_337, o_338, o_339, o_340, o_341, f17, f21, f20, f19, f18), rfl, ⟨(show 0 ≤ o_335.toInt ∧ o_335.toInt ≤ 1000 from by omega), hp_f17_0, hp_f17_1, hp_f17_2, hp_f17_3, hp_f17_4, hp_f17_5, hp_f21_0, hp_f21_1, hp_f20_0, hp_f19_0, hp_f19_1, hp_f18_0, hp_f18_1, hp_f18_2, hp_f18_3, (show v7.toInt ≤ o_335.toInt ∧ o_335.toInt ≤ v6.toInt from by omega), hTK⟩, by rw [ht]; exact hP9, va_K.moved hW.alike hK, hD9⟩, hS.F ht⟩) hS.2.2 dX12_line_222
              · skip
                have zh_350 : o_340.toInt = 0 := z_eq h_350
                refine lv_aload_n hx hb dX12_line_217 rfl (lv_at hl 0 rfl) ?_
                refine lv_iconst (v := 1) hx hb dX12_line_218 (by decide) ?_
                obtain ⟨hPc, hDc, hFc⟩ := sub3 hP hD hS hA (ws' := [(mo, .inr (12, [.int v0, .ref m1, .ref m2, .ref m3, .ref m4, .ref m5, .int v6, .int o_335, .int o_336, .int o_337, .int o_338, .long o_339, .int o_340, .int o_341, .int v14, .int v15, .ref m16, .ref m17, .ref m18, .ref m19, .ref m20, .ref m21, .ref m22, .ref m23, .int v24, .ref m25, .ref m26, .ref m27, .ref m28, .ref m29, .int v30, .ref m31, .ref m32, .ref m33, .int v34, .int v35, .int v36, .ref m37, .ref m38, .ref m39, .ref m40, .long v41]))]) [4] (by decide +kernel) rfl
                refine va_callv (va_runV (C := RX12) (As := [.int 1]) (rest := []) ⟨hx, hb, hml, hown, hts⟩ (c_X12_fails l D k mo 1 v0 m1 m2 m3 m4 m5 v6 o_335 o_336 o_337 o_338 o_339 o_340 o_341 v14 v15 m16 m17 m18 m19 m20 m21 m22 m23 v24 m25 m26 m27 m28 m29 v30 m31 m32 m33 v34 v35 v36 m37 m38 m39 m40 v41 H.size (show 0 ≤ v6.toInt ∧ v6.toInt ≤ 1000 from by omega) (show 0 ≤ v24.toInt ∧ v24.toInt ≤ 1023 from by omega)) (cwV 1 hts (gV tw_7_24 tw_7_26 tw_p_45 tw_1_13 tw_7_27) rfl rfl rfl hdV_X12_fails ⟨Nat.le_of_ble_eq_true rfl, Nat.le_of_ble_eq_true rfl⟩) (cz_V hK hPc hDc hN (ci := 12) (q0 := 0) rfl rfl [.int 1]) rfl rfl hl.1 rfl (lv_room (Nat.le_of_ble_eq_true rfl)) dX12_line_219 ⟨Nat.le_of_ble_eq_true rfl, Nat.le_of_ble_eq_true rfl⟩) hS (fun q _ h => hFc q h) hFc (fun uZ tZ H1 locs ht hvm hw hB hz1 hk1 hS => ?_)
                obtain ⟨o_352, o_353⟩ := uZ
                obtain ⟨hP1, hK1, hD1⟩ := hB
                rw [ht] at hP1
                obtain ⟨hP, hD⟩ := va_join (wr := [(m18, .inl (k 0, 250, .inl f18)), (m19, .inl (k 0, 40, .inl f19)), (m20, .inl (k 0, 120, .inl f20)), (m21, .inl (k 0, 20, .inl f21)), (m5, .inl (k 1, 1000, .inl f5)), (m17, .inl (k 0, 30, .inl f17))]) (w1 := [(mo, .inr (12, [.int v0, .ref m1, .ref m2, .ref m3, .ref m4, .ref m5, .int v6, .int o_335, .int o_336, .int o_337, .int o_338, .long o_339, .int o_352, .int o_353, .int v14, .int v15, .ref m16, .ref m17, .ref m18, .ref m19, .ref m20, .ref m21, .ref m22, .ref m23, .int v24, .ref m25, .ref m26, .ref m27, .ref m28, .ref m29, .int v30, .ref m31, .ref m32, .ref m33, .int v34, .int v35, .int v36, .ref m37, .ref m38, .ref m39, .ref m40, .long v41]))]) hP hD [4] [0, 1, 2, 3, 5, 6] rfl rfl (by decide +kernel) (by decide +kernel) hk1 hFc hP1 hD1
                clear hK1 hP1 hD1 hPc hDc hFc
                clear hk1 hz1 ht hvm
                have hP : va_P D vwCl [(m18, .inl (k 0, 250, .inl f18)), (m19, .inl (k 0, 40, .inl f19)), (m20, .inl (k 0, 120, .inl f20)), (m21, .inl (k 0, 20, .inl f21)), (m5, .inl (k 1, 1000, .inl f5)), (m17, .inl (k 0, 30, .inl f17)), (mo, .inr (12, [.int v0, .ref m1, .ref m2, .ref m3, .ref m4, .ref m5, .int v6, .int o_335, .int o_336, .int o_337, .int o_338, .long o_339, .int o_352, .int o_353, .int v14, .int v15, .ref m16, .ref m17, .ref m18, .ref m19, .ref m20, .ref m21, .ref m22, .ref m23, .int v24, .ref m25, .ref m26, .ref m27, .ref m28, .ref m29, .int v30, .ref m31, .ref m32, .ref m33, .int v34, .int v35, .int v36, .ref m37, .ref m38, .ref m39, .ref m40, .long v41]))] H1 := hP
                have hD : va_D A [(m18, .inl (k 0, 250, .inl f18)), (m19, .inl (k 0, 40, .inl f19)), (m20, .inl (k 0, 120, .inl f20)), (m21, .inl (k 0, 20, .inl f21)), (m5, .inl (k 1, 1000, .inl f5)), (m17, .inl (k 0, 30, .inl f17)), (mo, .inr (12, [.int v0, .ref m1, .ref m2, .ref m3, .ref m4, .ref m5, .int v6, .int o_335, .int o_336, .int o_337, .int o_338, .long o_339, .int o_352, .int o_353, .int v14, .int v15, .ref m16, .ref m17, .ref m18, .ref m19, .ref m20, .ref m21, .ref m22, .ref m23, .int v24, .ref m25, .ref m26, .ref m27, .ref m28, .ref m29, .int v30, .ref m31, .ref m32, .ref m33, .int v34, .int v35, .int v36, .ref m37, .ref m38, .ref m39, .ref m40, .long v41]))] := hD
                generalize H1 = H at hP hS ⊢
                have hw_354 : ((o_340.toInt = 0 ∧ o_352.toInt = 1) ∨ (¬ o_340.toInt = 0 ∧ o_352.toInt = o_340.toInt)) := hw
                have hw_355 := hw_354
                clear hw
                obtain ⟨hP9, hD9⟩ := sub2 hP hD (ws' := [(mo, .inr (12, [.int v0, .ref m1, .ref m2, .ref m3, .ref m4, .ref m5, .int v6, .int o_335, .int o_336, .int o_337, .int o_338, .long o_339, .int o_352, .int o_353, .int v14, .int v15, .ref m16, .ref m17, .ref m18, .ref m19, .ref m20, .ref m21, .ref m22, .ref m23, .int v24, .ref m25, .ref m26, .ref m27, .ref m28, .ref m29, .int v30, .ref m31, .ref m32, .ref m33, .int v34, .int v35, .int v36, .ref m37, .ref m38, .ref m39, .ref m40, .long v41])), (m5, .inl (k 1, 1000, .inl f5)), (m17, .inl (k 0, 30, .inl f17)), (m18, .inl (k 0, 250, .inl f18)), (m19, .inl (k 0, 40, .inl f19)), (m20, .inl (k 0, 120, .inl f20)), (m21, .inl (k 0, 20, .inl f21))]) [6, 4, 5, 0, 1, 2, 3] (by decide +kernel) rfl
                exact W.vret hx hb hr (fun tZ ht hW => ⟨⟨(o_335, o_336, o_337, o_338, o_339, o_352, o_353, f17, f21, f20, f19, f18), rfl, ⟨(show 0 ≤ o_335.toInt ∧ o_335.toInt ≤ 1000 from by omega), hp_f17_0, hp_f17_1, hp_f17_2, hp_f17_3, hp_f17_4, hp_f17_5, hp_f21_0, hp_f21_1, hp_f20_0, hp_f19_0, hp_f19_1, hp_f18_0, hp_f18_1, hp_f18_2, hp_f18_3, (show v7.toInt ≤ o_335.toInt ∧ o_335.toInt ≤ v6.toInt from by omega), hTK⟩, by rw [ht]; exact hP9, va_K.moved hW.alike hK, hD9⟩, hS.F ht⟩) hS.2.2 dX12_line_222
            · skip
              have zh_349 : o_340.toInt = 0 := z_eq h_349
              refine lv_aload_n hx hb dX12_line_139 rfl (lv_at hl 0 rfl) ?_
              refine lv_aload_n hx hb dX12_line_140 rfl (lv_at hl 0 rfl) ?_
              refine lv_ldc2 (v := 206754213222) hx hb hown (hts _ tw_7_77) dX12_line_141 ?_
              obtain ⟨hPc, hDc, hFc⟩ := sub3 hP hD hS hA (ws' := [(mo, .inr (12, [.int v0, .ref m1, .ref m2, .ref m3, .ref m4, .ref m5, .int v6, .int o_335, .int o_336, .int o_337, .int o_338, .long o_339, .int o_340, .int o_341, .int v14, .int v15, .ref m16, .ref m17, .ref m18, .ref m19, .ref m20, .ref m21, .ref m22, .ref m23, .int v24, .ref m25, .ref m26, .ref m27, .ref m28, .ref m29, .int v30, .ref m31, .ref m32, .ref m33, .int v34, .int v35, .int v36, .ref m37, .ref m38, .ref m39, .ref m40, .long v41]))]) [4] (by decide +kernel) rfl
              refine va_calli (va_runV (C := RX12) (As := [.long 206754213222]) (rest := [.ref mo]) ⟨hx, hb, hml, hown, hts⟩ (c_X12_is l D k mo 206754213222 v0 m1 m2 m3 m4 m5 v6 o_335 o_336 o_337 o_338 o_339 o_340 o_341 v14 v15 m16 m17 m18 m19 m20 m21 m22 m23 v24 m25 m26 m27 m28 m29 v30 m31 m32 m33 v34 v35 v36 m37 m38 m39 m40 v41 H.size (show 0 ≤ v6.toInt ∧ v6.toInt ≤ 1000 from by omega) (show 0 ≤ v24.toInt ∧ v24.toInt ≤ 1023 from by omega)) (cwV 1 hts (gV tw_7_20 tw_7_22 tw_p_44 tw_1_13 tw_7_23) rfl rfl rfl hdV_X12_is ⟨Nat.le_of_ble_eq_true rfl, Nat.le_of_ble_eq_true rfl⟩) (cz_V hK hPc hDc hN (ci := 12) (q0 := 0) rfl rfl [.long 206754213222]) rfl rfl hl.1 rfl (lv_room (Nat.le_of_ble_eq_true rfl)) dX12_line_144 ⟨Nat.le_of_ble_eq_true rfl, Nat.le_of_ble_eq_true rfl⟩) hS (fun q _ h => hFc q h) hFc (fun r_356 uZ tZ H1 locs ht hvm hw hB hz1 hk1 hS => ?_)
              obtain ⟨hP1, hK1, hD1⟩ := hB
              rw [ht] at hP1
              obtain ⟨hP, hD⟩ := va_join (wr := [(m18, .inl (k 0, 250, .inl f18)), (m19, .inl (k 0, 40, .inl f19)), (m20, .inl (k 0, 120, .inl f20)), (m21, .inl (k 0, 20, .inl f21)), (m5, .inl (k 1, 1000, .inl f5)), (m17, .inl (k 0, 30, .inl f17))]) (w1 := [(mo, .inr (12, [.int v0, .ref m1, .ref m2, .ref m3, .ref m4, .ref m5, .int v6, .int o_335, .int o_336, .int o_337, .int o_338, .long o_339, .int o_340, .int o_341, .int v14, .int v15, .ref m16, .ref m17, .ref m18, .ref m19, .ref m20, .ref m21, .ref m22, .ref m23, .int v24, .ref m25, .ref m26, .ref m27, .ref m28, .ref m29, .int v30, .ref m31, .ref m32, .ref m33, .int v34, .int v35, .int v36, .ref m37, .ref m38, .ref m39, .ref m40, .long v41]))]) hP hD [4] [0, 1, 2, 3, 5, 6] rfl rfl (by decide +kernel) (by decide +kernel) hk1 hFc hP1 hD1
              clear hK1 hP1 hD1 hPc hDc hFc
              clear hk1 hz1 ht hvm
              have hP : va_P D vwCl [(m18, .inl (k 0, 250, .inl f18)), (m19, .inl (k 0, 40, .inl f19)), (m20, .inl (k 0, 120, .inl f20)), (m21, .inl (k 0, 20, .inl f21)), (m5, .inl (k 1, 1000, .inl f5)), (m17, .inl (k 0, 30, .inl f17)), (mo, .inr (12, [.int v0, .ref m1, .ref m2, .ref m3, .ref m4, .ref m5, .int v6, .int o_335, .int o_336, .int o_337, .int o_338, .long o_339, .int o_340, .int o_341, .int v14, .int v15, .ref m16, .ref m17, .ref m18, .ref m19, .ref m20, .ref m21, .ref m22, .ref m23, .int v24, .ref m25, .ref m26, .ref m27, .ref m28, .ref m29, .int v30, .ref m31, .ref m32, .ref m33, .int v34, .int v35, .int v36, .ref m37, .ref m38, .ref m39, .ref m40, .long v41]))] H1 := hP
              have hD : va_D A [(m18, .inl (k 0, 250, .inl f18)), (m19, .inl (k 0, 40, .inl f19)), (m20, .inl (k 0, 120, .inl f20)), (m21, .inl (k 0, 20, .inl f21)), (m5, .inl (k 1, 1000, .inl f5)), (m17, .inl (k 0, 30, .inl f17)), (mo, .inr (12, [.int v0, .ref m1, .ref m2, .ref m3, .ref m4, .ref m5, .int v6, .int o_335, .int o_336, .int o_337, .int o_338, .long o_339, .int o_340, .int o_341, .int v14, .int v15, .ref m16, .ref m17, .ref m18, .ref m19, .ref m20, .ref m21, .ref m22, .ref m23, .int v24, .ref m25, .ref m26, .ref m27, .ref m28, .ref m29, .int v30, .ref m31, .ref m32, .ref m33, .int v34, .int v35, .int v36, .ref m37, .ref m38, .ref m39, .ref m40, .long v41]))] := hD
              generalize H1 = H at hP hS ⊢
              have hw_357 : (0 ≤ r_356.toInt ∧ r_356.toInt ≤ 1) := hw
              have hw_358 := hw_357
              clear hw
              refine lv_iconst (v := 4) hx hb dX12_line_147 (by decide) ?_
              refine lv_iconst (v := 2) hx hb dX12_line_148 (by decide) ?_
              obtain ⟨hPc, hDc, hFc⟩ := sub3 hP hD hS hA (ws' := [(mo, .inr (12, [.int v0, .ref m1, .ref m2, .ref m3, .ref m4, .ref m5, .int v6, .int o_335, .int o_336, .int o_337, .int o_338, .long o_339, .int o_340, .int o_341, .int v14, .int v15, .ref m16, .ref m17, .ref m18, .ref m19, .ref m20, .ref m21, .ref m22, .ref m23, .int v24, .ref m25, .ref m26, .ref m27, .ref m28, .ref m29, .int v30, .ref m31, .ref m32, .ref m33, .int v34, .int v35, .int v36, .ref m37, .ref m38, .ref m39, .ref m40, .long v41])), (m5, .inl (k 1, 1000, .inl f5)), (m17, .inl (k 0, 30, .inl f17))]) [6, 4, 5] (by decide +kernel) rfl
              refine va_calli (va_runV (C := RX12) (As := [.int r_356, .int 4, .int 2]) (rest := []) ⟨hx, hb, hml, hown, hts⟩ (c_X12_isRoom_3 l D k mo r_356 v0 m1 m2 m3 m4 m5 v6 o_335 o_336 o_337 o_338 o_339 o_340 o_341 v14 v15 m16 m17 m18 m19 m20 m21 m22 m23 v24 m25 m26 m27 m28 m29 v30 m31 m32 m33 v34 v35 v36 m37 m38 m39 m40 v41 f5 f17 H.size (show 0 ≤ r_356.toInt ∧ r_356.toInt ≤ 1 from by omega) (show 0 ≤ v6.toInt ∧ v6.toInt ≤ 1000 from by omega) (show 0 ≤ o_335.toInt ∧ o_335.toInt ≤ 1000 from by omega) (show 0 ≤ v24.toInt ∧ v24.toInt ≤ 1023 from by omega) hp_f17_0 hp_f17_1 hp_f17_2 hp_f17_3 hp_f17_4 hp_f17_5 (show o_335.toInt ≤ v6.toInt from by omega)) (cwV 3 hts (gV tw_7_42 tw_7_44 tw_p_49 tw_1_13 tw_7_45) rfl rfl rfl hdV_X12_isRoom ⟨Nat.le_of_ble_eq_true rfl, Nat.le_of_ble_eq_true rfl⟩) (cz_V hK hPc hDc hN (ci := 12) (q0 := 0) rfl rfl [.int r_356, .int 4, .int 2]) rfl rfl hl.1 rfl (lv_room (Nat.le_of_ble_eq_true rfl)) dX12_line_149 ⟨Nat.le_of_ble_eq_true rfl, Nat.le_of_ble_eq_true rfl⟩) hS (fun q _ h => hFc q h) hFc (fun r_359 uZ tZ H1 locs ht hvm hw hB hz1 hk1 hS => ?_)
              obtain ⟨o_360, o_361, o_362, o_363, o_364, o_365, o_366⟩ := uZ
              obtain ⟨hP1, hK1, hD1⟩ := hB
              rw [ht] at hP1
              obtain ⟨hP, hD⟩ := va_join (wr := [(m18, .inl (k 0, 250, .inl f18)), (m19, .inl (k 0, 40, .inl f19)), (m20, .inl (k 0, 120, .inl f20)), (m21, .inl (k 0, 20, .inl f21))]) (w1 := [(mo, .inr (12, [.int v0, .ref m1, .ref m2, .ref m3, .ref m4, .ref m5, .int v6, .int o_360, .int o_361, .int o_362, .int o_363, .long o_364, .int o_365, .int o_366, .int v14, .int v15, .ref m16, .ref m17, .ref m18, .ref m19, .ref m20, .ref m21, .ref m22, .ref m23, .int v24, .ref m25, .ref m26, .ref m27, .ref m28, .ref m29, .int v30, .ref m31, .ref m32, .ref m33, .int v34, .int v35, .int v36, .ref m37, .ref m38, .ref m39, .ref m40, .long v41])), (m5, .inl (k 1, 1000, .inl f5)), (m17, .inl (k 0, 30, .inl f17))]) hP hD [6, 4, 5] [0, 1, 2, 3] rfl rfl (by decide +kernel) (by decide +kernel) hk1 hFc hP1 hD1
              clear hK1 hP1 hD1 hPc hDc hFc
              clear hk1 hz1 ht hvm
              have hP : va_P D vwCl [(m18, .inl (k 0, 250, .inl f18)), (m19, .inl (k 0, 40, .inl f19)), (m20, .inl (k 0, 120, .inl f20)), (m21, .inl (k 0, 20, .inl f21)), (mo, .inr (12, [.int v0, .ref m1, .ref m2, .ref m3, .ref m4, .ref m5, .int v6, .int o_360, .int o_361, .int o_362, .int o_363, .long o_364, .int o_365, .int o_366, .int v14, .int v15, .ref m16, .ref m17, .ref m18, .ref m19, .ref m20, .ref m21, .ref m22, .ref m23, .int v24, .ref m25, .ref m26, .ref m27, .ref m28, .ref m29, .int v30, .ref m31, .ref m32, .ref m33, .int v34, .int v35, .int v36, .ref m37, .ref m38, .ref m39, .ref m40, .long v41])), (m5, .inl (k 1, 1000, .inl f5)), (m17, .inl (k 0, 30, .inl f17))] H1 := hP
              have hD : va_D A [(m18, .inl (k 0, 250, .inl f18)), (m19, .inl (k 0, 40, .inl f19)), (m20, .inl (k 0, 120, .inl f20)), (m21, .inl (k 0, 20, .inl f21)), (mo, .inr (12, [.int v0, .ref m1, .ref m2, .ref m3, .ref m4, .ref m5, .int v6, .int o_360, .int o_361, .int o_362, .int o_363, .long o_364, .int o_365, .int o_366, .int v14, .int v15, .ref m16, .ref m17, .ref m18, .ref m19, .ref m20, .ref m21, .ref m22, .ref m23, .int v24, .ref m25, .ref m26, .ref m27, .ref m28, .ref m29, .int v30, .ref m31, .ref m32, .ref m33, .int v34, .int v35, .int v36, .ref m37, .ref m38, .ref m39, .ref m40, .long v41])), (m5, .inl (k 1, 1000, .inl f5)), (m17, .inl (k 0, 30, .inl f17))] := hD
              generalize H1 = H at hP hS ⊢
              have hw_367 : (0 ≤ r_359.toInt ∧ r_359.toInt ≤ 1) ∧ (0 ≤ o_360.toInt ∧ o_360.toInt ≤ 1000) ∧ (o_335.toInt ≤ o_360.toInt ∧ o_360.toInt ≤ v6.toInt) ∧ (r_359.toInt = 0 ∨ (f17 28).toInt ≤ 1) ∧ (r_359.toInt = 0 ∨ o_365.toInt = 0) := hw
              obtain ⟨hw_368, hw_369, hw_370, hw_371, hw_372⟩ := hw_367
              clear hw
              refine lv_if_eq (tgt := 210) hx hb dX12_line_152 (by decide) (fun h_373 => ?_) (fun h_373 => ?_)
              · skip
                have zh_373 : r_359.toInt = 0 := z_eq h_373
                refine lv_aload_n hx hb dX12_line_210 rfl (lv_at hl 0 rfl) ?_
                refine va_get (D := D) (ci := 12) (v := .int o_365) (C := RX12) (T := TX12) (N := 42) hx hb hts iT_X12 hown hK hP 4 rfl rfl 12 (by decide) (hts _ tw_6_65) (fun _ h9 => h9) rfl dX12_line_211 ?_
                refine lv_if_ne (tgt := 222) hx hb dX12_line_214 (by decide) (fun h_374 => ?_) (fun h_374 => ?_)
                · skip
                  have zh_374 : ¬ o_365.toInt = 0 := z_ne h_374
                  obtain ⟨hP9, hD9⟩ := sub2 hP hD (ws' := [(mo, .inr (12, [.int v0, .ref m1, .ref m2, .ref m3, .ref m4, .ref m5, .int v6, .int o_360, .int o_361, .int o_362, .int o_363, .long o_364, .int o_365, .int o_366, .int v14, .int v15, .ref m16, .ref m17, .ref m18, .ref m19, .ref m20, .ref m21, .ref m22, .ref m23, .int v24, .ref m25, .ref m26, .ref m27, .ref m28, .ref m29, .int v30, .ref m31, .ref m32, .ref m33, .int v34, .int v35, .int v36, .ref m37, .ref m38, .ref m39, .ref m40, .long v41])), (m5, .inl (k 1, 1000, .inl f5)), (m17, .inl (k 0, 30, .inl f17)), (m18, .inl (k 0, 250, .inl f18)), (m19, .inl (k 0, 40, .inl f19)), (m20, .inl (k 0, 120, .inl f20)), (m21, .inl (k 0, 20, .inl f21))]) [4, 5, 6, 0, 1, 2, 3] (by decide +kernel) rfl
                  exact W.vret hx hb hr (fun tZ ht hW => ⟨⟨(o_360, o_361, o_362, o_363, o_364, o_365, o_366, f17, f21, f20, f19, f18), rfl, ⟨(show 0 ≤ o_360.toInt ∧ o_360.toInt ≤ 1000 from by omega), hp_f17_0, hp_f17_1, hp_f17_2, hp_f17_3, hp_f17_4, hp_f17_5, hp_f21_0, hp_f21_1, hp_f20_0, hp_f19_0, hp_f19_1, hp_f18_0, hp_f18_1, hp_f18_2, hp_f18_3, (show v7.toInt ≤ o_360.toInt ∧ o_360.toInt ≤ v6.toInt from by omega), hTK⟩, by rw [ht]; exact hP9, va_K.moved hW.alike hK, hD9⟩, hS.F ht⟩) hS.2.2 dX12_line_222
                · skip
                  have zh_374 : o_365.toInt = 0 := z_eq h_374
                  refine lv_aload_n hx hb dX12_line_217 rfl (lv_at hl 0 rfl) ?_
                  refine lv_iconst (v := 1) hx hb dX12_line_218 (by decide) ?_
                  obtain ⟨hPc, hDc, hFc⟩ := sub3 hP hD hS hA (ws' := [(mo, .inr (12, [.int v0, .ref m1, .ref m2, .ref m3, .ref m4, .ref m5, .int v6, .int o_360, .int o_361, .int o_362, .int o_363, .long o_364, .int o_365, .int o_366, .int v14, .int v15, .ref m16, .ref m17, .ref m18, .ref m19, .ref m20, .ref m21, .ref m22, .ref m23, .int v24, .ref m25, .ref m26, .ref m27, .ref m28, .ref m29, .int v30, .ref m31, .ref m32, .ref m33, .int v34, .int v35, .int v36, .ref m37, .ref m38, .ref m39, .ref m40, .long v41]))]) [4] (by decide +kernel) rfl
                  refine va_callv (va_runV (C := RX12) (As := [.int 1]) (rest := []) ⟨hx, hb, hml, hown, hts⟩ (c_X12_fails l D k mo 1 v0 m1 m2 m3 m4 m5 v6 o_360 o_361 o_362 o_363 o_364 o_365 o_366 v14 v15 m16 m17 m18 m19 m20 m21 m22 m23 v24 m25 m26 m27 m28 m29 v30 m31 m32 m33 v34 v35 v36 m37 m38 m39 m40 v41 H.size (show 0 ≤ v6.toInt ∧ v6.toInt ≤ 1000 from by omega) (show 0 ≤ v24.toInt ∧ v24.toInt ≤ 1023 from by omega)) (cwV 1 hts (gV tw_7_24 tw_7_26 tw_p_45 tw_1_13 tw_7_27) rfl rfl rfl hdV_X12_fails ⟨Nat.le_of_ble_eq_true rfl, Nat.le_of_ble_eq_true rfl⟩) (cz_V hK hPc hDc hN (ci := 12) (q0 := 0) rfl rfl [.int 1]) rfl rfl hl.1 rfl (lv_room (Nat.le_of_ble_eq_true rfl)) dX12_line_219 ⟨Nat.le_of_ble_eq_true rfl, Nat.le_of_ble_eq_true rfl⟩) hS (fun q _ h => hFc q h) hFc (fun uZ tZ H1 locs ht hvm hw hB hz1 hk1 hS => ?_)
                  obtain ⟨o_376, o_377⟩ := uZ
                  obtain ⟨hP1, hK1, hD1⟩ := hB
                  rw [ht] at hP1
                  obtain ⟨hP, hD⟩ := va_join (wr := [(m18, .inl (k 0, 250, .inl f18)), (m19, .inl (k 0, 40, .inl f19)), (m20, .inl (k 0, 120, .inl f20)), (m21, .inl (k 0, 20, .inl f21)), (m5, .inl (k 1, 1000, .inl f5)), (m17, .inl (k 0, 30, .inl f17))]) (w1 := [(mo, .inr (12, [.int v0, .ref m1, .ref m2, .ref m3, .ref m4, .ref m5, .int v6, .int o_360, .int o_361, .int o_362, .int o_363, .long o_364, .int o_376, .int o_377, .int v14, .int v15, .ref m16, .ref m17, .ref m18, .ref m19, .ref m20, .ref m21, .ref m22, .ref m23, .int v24, .ref m25, .ref m26, .ref m27, .ref m28, .ref m29, .int v30, .ref m31, .ref m32, .ref m33, .int v34, .int v35, .int v36, .ref m37, .ref m38, .ref m39, .ref m40, .long v41]))]) hP hD [4] [0, 1, 2, 3, 5, 6] rfl rfl (by decide +kernel) (by decide +kernel) hk1 hFc hP1 hD1
                  clear hK1 hP1 hD1 hPc hDc hFc
                  clear hk1 hz1 ht hvm
                  have hP : va_P D vwCl [(m18, .inl (k 0, 250, .inl f18)), (m19, .inl (k 0, 40, .inl f19)), (m20, .inl (k 0, 120, .inl f20)), (m21, .inl (k 0, 20, .inl f21)), (m5, .inl (k 1, 1000, .inl f5)), (m17, .inl (k 0, 30, .inl f17)), (mo, .inr (12, [.int v0, .ref m1, .ref m2, .ref m3, .ref m4, .ref m5, .int v6, .int o_360, .int o_361, .int o_362, .int o_363, .long o_364, .int o_376, .int o_377, .int v14, .int v15, .ref m16, .ref m17, .ref m18, .ref m19, .ref m20, .ref m21, .ref m22, .ref m23, .int v24, .ref m25, .ref m26, .ref m27, .ref m28, .ref m29, .int v30, .ref m31, .ref m32, .ref m33, .int v34, .int v35, .int v36, .ref m37, .ref m38, .ref m39, .ref m40, .long v41]))] H1 := hP
                  have hD : va_D A [(m18, .inl (k 0, 250, .inl f18)), (m19, .inl (k 0, 40, .inl f19)), (m20, .inl (k 0, 120, .inl f20)), (m21, .inl (k 0, 20, .inl f21)), (m5, .inl (k 1, 1000, .inl f5)), (m17, .inl (k 0, 30, .inl f17)), (mo, .inr (12, [.int v0, .ref m1, .ref m2, .ref m3, .ref m4, .ref m5, .int v6, .int o_360, .int o_361, .int o_362, .int o_363, .long o_364, .int o_376, .int o_377, .int v14, .int v15, .ref m16, .ref m17, .ref m18, .ref m19, .ref m20, .ref m21, .ref m22, .ref m23, .int v24, .ref m25, .ref m26, .ref m27, .ref m28, .ref m29, .int v30, .ref m31, .ref m32, .ref m33, .int v34, .int v35, .int v36, .ref m37, .ref m38, .ref m39, .ref m40, .long v41]))] := hD
                  generalize H1 = H at hP hS ⊢
                  have hw_378 : ((o_365.toInt = 0 ∧ o_376.toInt = 1) ∨ (¬ o_365.toInt = 0 ∧ o_376.toInt = o_365.toInt)) := hw
                  have hw_379 := hw_378
                  clear hw
                  obtain ⟨hP9, hD9⟩ := sub2 hP hD (ws' := [(mo, .inr (12, [.int v0, .ref m1, .ref m2, .ref m3, .ref m4, .ref m5, .int v6, .int o_360, .int o_361, .int o_362, .int o_363, .long o_364, .int o_376, .int o_377, .int v14, .int v15, .ref m16, .ref m17, .ref m18, .ref m19, .ref m20, .ref m21, .ref m22, .ref m23, .int v24, .ref m25, .ref m26, .ref m27, .ref m28, .ref m29, .int v30, .ref m31, .ref m32, .ref m33, .int v34, .int v35, .int v36, .ref m37, .ref m38, .ref m39, .ref m40, .long v41])), (m5, .inl (k 1, 1000, .inl f5)), (m17, .inl (k 0, 30, .inl f17)), (m18, .inl (k 0, 250, .inl f18)), (m19, .inl (k 0, 40, .inl f19)), (m20, .inl (k 0, 120, .inl f20)), (m21, .inl (k 0, 20, .inl f21))]) [6, 4, 5, 0, 1, 2, 3] (by decide +kernel) rfl
                  exact W.vret hx hb hr (fun tZ ht hW => ⟨⟨(o_360, o_361, o_362, o_363, o_364, o_376, o_377, f17, f21, f20, f19, f18), rfl, ⟨(show 0 ≤ o_360.toInt ∧ o_360.toInt ≤ 1000 from by omega), hp_f17_0, hp_f17_1, hp_f17_2, hp_f17_3, hp_f17_4, hp_f17_5, hp_f21_0, hp_f21_1, hp_f20_0, hp_f19_0, hp_f19_1, hp_f18_0, hp_f18_1, hp_f18_2, hp_f18_3, (show v7.toInt ≤ o_360.toInt ∧ o_360.toInt ≤ v6.toInt from by omega), hTK⟩, by rw [ht]; exact hP9, va_K.moved hW.alike hK, hD9⟩, hS.F ht⟩) hS.2.2 dX12_line_222
              · skip
                have zh_373 : ¬ r_359.toInt = 0 := z_ne h_373
                refine lv_iconst (v := 2) hx hb dX12_line_155 (by decide) ?_
                refine lv_bipush (v := 8) hx hb dX12_line_156 (by decide) ?_
                refine lv_aload_n hx hb dX12_line_158 rfl (lv_at hl 0 rfl) ?_
                refine lv_iconst (v := 4) hx hb dX12_line_159 (by decide) ?_
                obtain ⟨hPc, hDc, hFc⟩ := sub3 hP hD hS hA (ws' := [(mo, .inr (12, [.int v0, .ref m1, .ref m2, .ref m3, .ref m4, .ref m5, .int v6, .int o_360, .int o_361, .int o_362, .int o_363, .long o_364, .int o_365, .int o_366, .int v14, .int v15, .ref m16, .ref m17, .ref m18, .ref m19, .ref m20, .ref m21, .ref m22, .ref m23, .int v24, .ref m25, .ref m26, .ref m27, .ref m28, .ref m29, .int v30, .ref m31, .ref m32, .ref m33, .int v34, .int v35, .int v36, .ref m37, .ref m38, .ref m39, .ref m40, .long v41])), (m17, .inl (k 0, 30, .inl f17))]) [4, 6] (by decide +kernel) rfl
                refine va_calli (va_runV (C := RX12) (As := [.int 4]) (rest := [.int 8, .int 2]) ⟨hx, hb, hml, hown, hts⟩ (c_X12_hasRead_4 l D k mo v0 m1 m2 m3 m4 m5 v6 o_360 o_361 o_362 o_363 o_364 o_365 o_366 v14 v15 m16 m17 m18 m19 m20 m21 m22 m23 v24 m25 m26 m27 m28 m29 v30 m31 m32 m33 v34 v35 v36 m37 m38 m39 m40 v41 f17 H.size (show 0 ≤ v6.toInt ∧ v6.toInt ≤ 1000 from by omega) (show 0 ≤ v24.toInt ∧ v24.toInt ≤ 1023 from by omega) hp_f17_0 hp_f17_1 hp_f17_2 hp_f17_3 hp_f17_4 hp_f17_5) (cwV 1 hts (gV tw_7_46 tw_7_48 tw_p_50 tw_1_13 tw_7_49) rfl rfl rfl hdV_X12_hasRead ⟨Nat.le_of_ble_eq_true rfl, Nat.le_of_ble_eq_true rfl⟩) (cz_V hK hPc hDc hN (ci := 12) (q0 := 0) rfl rfl [.int 4]) rfl rfl hl.1 rfl (lv_room (Nat.le_of_ble_eq_true rfl)) dX12_line_160 ⟨Nat.le_of_ble_eq_true rfl, Nat.le_of_ble_eq_true rfl⟩) hS (fun q _ h => hFc q h) hFc (fun r_380 uZ tZ H1 locs ht hvm hw hB hz1 hk1 hS => ?_)
                obtain ⟨hP1, hK1, hD1⟩ := hB
                rw [ht] at hP1
                obtain ⟨hP, hD⟩ := va_join (wr := [(m18, .inl (k 0, 250, .inl f18)), (m19, .inl (k 0, 40, .inl f19)), (m20, .inl (k 0, 120, .inl f20)), (m21, .inl (k 0, 20, .inl f21)), (m5, .inl (k 1, 1000, .inl f5))]) (w1 := [(mo, .inr (12, [.int v0, .ref m1, .ref m2, .ref m3, .ref m4, .ref m5, .int v6, .int o_360, .int o_361, .int o_362, .int o_363, .long o_364, .int o_365, .int o_366, .int v14, .int v15, .ref m16, .ref m17, .ref m18, .ref m19, .ref m20, .ref m21, .ref m22, .ref m23, .int v24, .ref m25, .ref m26, .ref m27, .ref m28, .ref m29, .int v30, .ref m31, .ref m32, .ref m33, .int v34, .int v35, .int v36, .ref m37, .ref m38, .ref m39, .ref m40, .long v41])), (m17, .inl (k 0, 30, .inl f17))]) hP hD [4, 6] [0, 1, 2, 3, 5] rfl rfl (by decide +kernel) (by decide +kernel) hk1 hFc hP1 hD1
                clear hK1 hP1 hD1 hPc hDc hFc
                clear hk1 hz1 ht hvm
                have hP : va_P D vwCl [(m18, .inl (k 0, 250, .inl f18)), (m19, .inl (k 0, 40, .inl f19)), (m20, .inl (k 0, 120, .inl f20)), (m21, .inl (k 0, 20, .inl f21)), (m5, .inl (k 1, 1000, .inl f5)), (mo, .inr (12, [.int v0, .ref m1, .ref m2, .ref m3, .ref m4, .ref m5, .int v6, .int o_360, .int o_361, .int o_362, .int o_363, .long o_364, .int o_365, .int o_366, .int v14, .int v15, .ref m16, .ref m17, .ref m18, .ref m19, .ref m20, .ref m21, .ref m22, .ref m23, .int v24, .ref m25, .ref m26, .ref m27, .ref m28, .ref m29, .int v30, .ref m31, .ref m32, .ref m33, .int v34, .int v35, .int v36, .ref m37, .ref m38, .ref m39, .ref m40, .long v41])), (m17, .inl (k 0, 30, .inl f17))] H1 := hP
                have hD : va_D A [(m18, .inl (k 0, 250, .inl f18)), (m19, .inl (k 0, 40, .inl f19)), (m20, .inl (k 0, 120, .inl f20)), (m21, .inl (k 0, 20, .inl f21)), (m5, .inl (k 1, 1000, .inl f5)), (mo, .inr (12, [.int v0, .ref m1, .ref m2, .ref m3, .ref m4, .ref m5, .int v6, .int o_360, .int o_361, .int o_362, .int o_363, .long o_364, .int o_365, .int o_366, .int v14, .int v15, .ref m16, .ref m17, .ref m18, .ref m19, .ref m20, .ref m21, .ref m22, .ref m23, .int v24, .ref m25, .ref m26, .ref m27, .ref m28, .ref m29, .int v30, .ref m31, .ref m32, .ref m33, .int v34, .int v35, .int v36, .ref m37, .ref m38, .ref m39, .ref m40, .long v41])), (m17, .inl (k 0, 30, .inl f17))] := hD
                generalize H1 = H at hP hS ⊢
                have hw_381 : (0 ≤ r_380.toInt ∧ r_380.toInt ≤ 2) ∧ (r_380 = f17 28) := hw
                obtain ⟨hw_382, hw_383⟩ := hw_381
                clear hw
                have zhr_380 : r_380.toInt = (f17 28).toInt := by rw [hw_383]
                refine lv_iadd hx hb dX12_line_163 ?_
                refine lv_topi (fun x_384 ex_384 => ?_)
                have zx_384 : x_384.toInt = 8 + r_380.toInt := by rw [ex_384]; exact z_add rfl rfl (by omega) (by omega)
                refine lv_imul hx hb dX12_line_164 ?_
                refine lv_topi (fun x_385 ex_385 => ?_)
                have zx_385 : x_385.toInt = 2 * x_384.toInt := by rw [ex_385]; exact z_mul rfl rfl (by omega) (by omega)
                refine lv_istore_n (lv' := [(1, .int x_385), (0, .ref mo)]) hx hb dX12_line_165 rfl hl (by decide) rfl (fun ls hl => ?_)
                refine lv_aload_n hx hb dX12_line_166 rfl (lv_at hl 1 rfl) ?_
                refine va_get (D := D) (ci := 12) (v := .ref m21) (C := RX12) (T := TX12) (N := 42) hx hb hts iT_X12 hown hK hP 5 rfl rfl 21 (by decide) (hts _ tw_6_74) (fun _ h9 => h9) rfl dX12_line_167 ?_
                refine lv_iload_n hx hb dX12_line_170 rfl (lv_at hl 0 rfl) ?_
                refine lv_aload_n hx hb dX12_line_171 rfl (lv_at hl 1 rfl) ?_
                obtain ⟨hPc, hDc, hFc⟩ := sub3 hP hD hS hA (ws' := [(mo, .inr (12, [.int v0, .ref m1, .ref m2, .ref m3, .ref m4, .ref m5, .int v6, .int o_360, .int o_361, .int o_362, .int o_363, .long o_364, .int o_365, .int o_366, .int v14, .int v15, .ref m16, .ref m17, .ref m18, .ref m19, .ref m20, .ref m21, .ref m22, .ref m23, .int v24, .ref m25, .ref m26, .ref m27, .ref m28, .ref m29, .int v30, .ref m31, .ref m32, .ref m33, .int v34, .int v35, .int v36, .ref m37, .ref m38, .ref m39, .ref m40, .long v41])), (m5, .inl (k 1, 1000, .inl f5)), (m17, .inl (k 0, 30, .inl f17))]) [5, 4, 6] (by decide +kernel) rfl
                refine va_calli (va_runV (C := RX12) (As := []) (rest := [.int x_385, .ref m21]) ⟨hx, hb, hml, hown, hts⟩ (c_X12_streetAt l D k mo v0 m1 m2 m3 m4 m5 v6 o_360 o_361 o_362 o_363 o_364 o_365 o_366 v14 v15 m16 m17 m18 m19 m20 m21 m22 m23 v24 m25 m26 m27 m28 m29 v30 m31 m32 m33 v34 v35 v36 m37 m38 m39 m40 v41 f5 f17 H.size (show 0 ≤ v6.toInt ∧ v6.toInt ≤ 1000 from by omega) (show 0 ≤ o_360.toInt ∧ o_360.toInt ≤ 1000 from by omega) (show 0 ≤ v24.toInt ∧ v24.toInt ≤ 1023 from by omega) hp_f17_0 hp_f17_1 hp_f17_2 hp_f17_3 hp_f17_4 hp_f17_5 (show o_360.toInt ≤ v6.toInt from by omega)) (cwV 0 hts (gV tw_7_63 tw_7_65 tw_p_53 tw_1_13 tw_7_66) rfl rfl rfl hdV_X12_streetAt ⟨Nat.le_of_ble_eq_true rfl, Nat.le_of_ble_eq_true rfl⟩) (cz_V hK hPc hDc hN (ci := 12) (q0 := 0) rfl rfl []) rfl rfl hl.1 rfl (lv_room (Nat.le_of_ble_eq_true rfl)) dX12_line_172 ⟨Nat.le_of_ble_eq_true rfl, Nat.le_of_ble_eq_true rfl⟩) hS (fun q _ h => hFc q h) hFc (fun r_386 uZ tZ H1 locs ht hvm hw hB hz1 hk1 hS => ?_)
                obtain ⟨o_387, o_388, o_389, o_390, o_391, o_392, o_393⟩ := uZ
                obtain ⟨hP1, hK1, hD1⟩ := hB
                rw [ht] at hP1
                obtain ⟨hP, hD⟩ := va_join (wr := [(m18, .inl (k 0, 250, .inl f18)), (m19, .inl (k 0, 40, .inl f19)), (m20, .inl (k 0, 120, .inl f20)), (m21, .inl (k 0, 20, .inl f21))]) (w1 := [(mo, .inr (12, [.int v0, .ref m1, .ref m2, .ref m3, .ref m4, .ref m5, .int v6, .int o_387, .int o_388, .int o_389, .int o_390, .long o_391, .int o_392, .int o_393, .int v14, .int v15, .ref m16, .ref m17, .ref m18, .ref m19, .ref m20, .ref m21, .ref m22, .ref m23, .int v24, .ref m25, .ref m26, .ref m27, .ref m28, .ref m29, .int v30, .ref m31, .ref m32, .ref m33, .int v34, .int v35, .int v36, .ref m37, .ref m38, .ref m39, .ref m40, .long v41])), (m5, .inl (k 1, 1000, .inl f5)), (m17, .inl (k 0, 30, .inl f17))]) hP hD [5, 4, 6] [0, 1, 2, 3] rfl rfl (by decide +kernel) (by decide +kernel) hk1 hFc hP1 hD1
                clear hK1 hP1 hD1 hPc hDc hFc
                clear hk1 hz1 ht hvm
                have hP : va_P D vwCl [(m18, .inl (k 0, 250, .inl f18)), (m19, .inl (k 0, 40, .inl f19)), (m20, .inl (k 0, 120, .inl f20)), (m21, .inl (k 0, 20, .inl f21)), (mo, .inr (12, [.int v0, .ref m1, .ref m2, .ref m3, .ref m4, .ref m5, .int v6, .int o_387, .int o_388, .int o_389, .int o_390, .long o_391, .int o_392, .int o_393, .int v14, .int v15, .ref m16, .ref m17, .ref m18, .ref m19, .ref m20, .ref m21, .ref m22, .ref m23, .int v24, .ref m25, .ref m26, .ref m27, .ref m28, .ref m29, .int v30, .ref m31, .ref m32, .ref m33, .int v34, .int v35, .int v36, .ref m37, .ref m38, .ref m39, .ref m40, .long v41])), (m5, .inl (k 1, 1000, .inl f5)), (m17, .inl (k 0, 30, .inl f17))] H1 := hP
                have hD : va_D A [(m18, .inl (k 0, 250, .inl f18)), (m19, .inl (k 0, 40, .inl f19)), (m20, .inl (k 0, 120, .inl f20)), (m21, .inl (k 0, 20, .inl f21)), (mo, .inr (12, [.int v0, .ref m1, .ref m2, .ref m3, .ref m4, .ref m5, .int v6, .int o_387, .int o_388, .int o_389, .int o_390, .long o_391, .int o_392, .int o_393, .int v14, .int v15, .ref m16, .ref m17, .ref m18, .ref m19, .ref m20, .ref m21, .ref m22, .ref m23, .int v24, .ref m25, .ref m26, .ref m27, .ref m28, .ref m29, .int v30, .ref m31, .ref m32, .ref m33, .int v34, .int v35, .int v36, .ref m37, .ref m38, .ref m39, .ref m40, .long v41])), (m5, .inl (k 1, 1000, .inl f5)), (m17, .inl (k 0, 30, .inl f17))] := hD
                generalize H1 = H at hP hS ⊢
                have hw_394 : (0 ≤ r_386.toInt ∧ r_386.toInt ≤ 7) ∧ (0 ≤ o_387.toInt ∧ o_387.toInt ≤ 1000) ∧ (o_360.toInt ≤ o_387.toInt ∧ o_387.toInt ≤ v6.toInt) := hw
                obtain ⟨hw_395, hw_396, hw_397⟩ := hw_394
                clear hw
                refine va_iast hx hb hK hP hD hS 3 0 rfl rfl (z_in (by omega) (by omega)) dX12_line_175 (fun H locs hP hD hS => ?_)
                obtain ⟨g_398, eg_398⟩ : ∃ z : Nat → Int32, upd f21 x_385.toNatClampNeg r_386 = z := ⟨_, rfl⟩
                have hP : va_P D vwCl [(m18, .inl (k 0, 250, .inl f18)), (m19, .inl (k 0, 40, .inl f19)), (m20, .inl (k 0, 120, .inl f20)), (m21, .inl (k 0, 20, .inl (upd f21 x_385.toNatClampNeg r_386))), (mo, .inr (12, [.int v0, .ref m1, .ref m2, .ref m3, .ref m4, .ref m5, .int v6, .int o_387, .int o_388, .int o_389, .int o_390, .long o_391, .int o_392, .int o_393, .int v14, .int v15, .ref m16, .ref m17, .ref m18, .ref m19, .ref m20, .ref m21, .ref m22, .ref m23, .int v24, .ref m25, .ref m26, .ref m27, .ref m28, .ref m29, .int v30, .ref m31, .ref m32, .ref m33, .int v34, .int v35, .int v36, .ref m37, .ref m38, .ref m39, .ref m40, .long v41])), (m5, .inl (k 1, 1000, .inl f5)), (m17, .inl (k 0, 30, .inl f17))] H := hP
                have hD : va_D A [(m18, .inl (k 0, 250, .inl f18)), (m19, .inl (k 0, 40, .inl f19)), (m20, .inl (k 0, 120, .inl f20)), (m21, .inl (k 0, 20, .inl (upd f21 x_385.toNatClampNeg r_386))), (mo, .inr (12, [.int v0, .ref m1, .ref m2, .ref m3, .ref m4, .ref m5, .int v6, .int o_387, .int o_388, .int o_389, .int o_390, .long o_391, .int o_392, .int o_393, .int v14, .int v15, .ref m16, .ref m17, .ref m18, .ref m19, .ref m20, .ref m21, .ref m22, .ref m23, .int v24, .ref m25, .ref m26, .ref m27, .ref m28, .ref m29, .int v30, .ref m31, .ref m32, .ref m33, .int v34, .int v35, .int v36, .ref m37, .ref m38, .ref m39, .ref m40, .long v41])), (m5, .inl (k 1, 1000, .inl f5)), (m17, .inl (k 0, 30, .inl f17))] := hD
                rw [eg_398] at hP hD
                have hp_399 : PR 20 2 0 0 7 g_398 := by rw [← eg_398]; exact PR.put hp_f21_0 ⟨by omega, by omega⟩
                have hp_400 : PR 20 2 1 0 999 g_398 := by rw [← eg_398]; exact PR.other hp_f21_1 (z_clm (by omega) (by omega))
                refine lv_aload_n hx hb dX12_line_176 rfl (lv_at hl 1 rfl) ?_
                refine va_get (D := D) (ci := 12) (v := .ref m21) (C := RX12) (T := TX12) (N := 42) hx hb hts iT_X12 hown hK hP 4 rfl rfl 21 (by decide) (hts _ tw_6_74) (fun _ h9 => h9) rfl dX12_line_177 ?_
                refine lv_iload_n hx hb dX12_line_180 rfl (lv_at hl 0 rfl) ?_
                refine lv_iconst (v := 1) hx hb dX12_line_181 (by decide) ?_
                refine lv_iadd hx hb dX12_line_182 ?_
                refine lv_topi (fun x_401 ex_401 => ?_)
                have zx_401 : x_401.toInt = x_385.toInt + 1 := by rw [ex_401]; exact z_add rfl rfl (by omega) (by omega)
                refine lv_aload_n hx hb dX12_line_183 rfl (lv_at hl 1 rfl) ?_
                refine lv_ldc2 (v := 131638) hx hb hown (hts _ tw_7_78) dX12_line_184 ?_
                refine lv_iconst (v := 0) hx hb dX12_line_187 (by decide) ?_
                refine lv_sipush (v := 999) hx hb dX12_line_188 (by decide) ?_
                obtain ⟨hPc, hDc, hFc⟩ := sub3 hP hD hS hA (ws' := [(mo, .inr (12, [.int v0, .ref m1, .ref m2, .ref m3, .ref m4, .ref m5, .int v6, .int o_387, .int o_388, .int o_389, .int o_390, .long o_391, .int o_392, .int o_393, .int v14, .int v15, .ref m16, .ref m17, .ref m18, .ref m19, .ref m20, .ref m21, .ref m22, .ref m23, .int v24, .ref m25, .ref m26, .ref m27, .ref m28, .ref m29, .int v30, .ref m31, .ref m32, .ref m33, .int v34, .int v35, .int v36, .ref m37, .ref m38, .ref m39, .ref m40, .long v41])), (m5, .inl (k 1, 1000, .inl f5))]) [4, 5] (by decide +kernel) rfl
                refine va_calli (va_runV (C := RX12) (As := [.long 131638, .int 0, .int 999]) (rest := [.int x_401, .ref m21]) ⟨hx, hb, hml, hown, hts⟩ (c_X12_number_ l D k mo 131638 0 999 v0 m1 m2 m3 m4 m5 v6 o_387 o_388 o_389 o_390 o_391 o_392 o_393 v14 v15 m16 m17 m18 m19 m20 m21 m22 m23 v24 m25 m26 m27 m28 m29 v30 m31 m32 m33 v34 v35 v36 m37 m38 m39 m40 v41 f5 H.size (show 0 ≤ v6.toInt ∧ v6.toInt ≤ 1000 from by omega) (show 0 ≤ o_387.toInt ∧ o_387.toInt ≤ 1000 from by omega) (show 0 ≤ v24.toInt ∧ v24.toInt ≤ 1023 from by omega) (show o_387.toInt ≤ v6.toInt from by omega)) (cwV 3 hts (gV tw_7_29 tw_7_31 tw_p_46 tw_1_13 tw_7_32) rfl rfl rfl hdV_X12_number_ ⟨Nat.le_of_ble_eq_true rfl, Nat.le_of_ble_eq_true rfl⟩) (cz_V hK hPc hDc hN (ci := 12) (q0 := 0) rfl rfl [.long 131638, .int 0, .int 999]) rfl rfl hl.1 rfl (lv_room (Nat.le_of_ble_eq_true rfl)) dX12_line_191 ⟨Nat.le_of_ble_eq_true rfl, Nat.le_of_ble_eq_true rfl⟩) hS (fun q _ h => hFc q h) hFc (fun r_402 uZ tZ H1 locs ht hvm hw hB hz1 hk1 hS => ?_)
                obtain ⟨o_403, o_404, o_405, o_406, o_407, o_408, o_409⟩ := uZ
                obtain ⟨hP1, hK1, hD1⟩ := hB
                rw [ht] at hP1
                obtain ⟨hP, hD⟩ := va_join (wr := [(m18, .inl (k 0, 250, .inl f18)), (m19, .inl (k 0, 40, .inl f19)), (m20, .inl (k 0, 120, .inl f20)), (m21, .inl (k 0, 20, .inl g_398)), (m17, .inl (k 0, 30, .inl f17))]) (w1 := [(mo, .inr (12, [.int v0, .ref m1, .ref m2, .ref m3, .ref m4, .ref m5, .int v6, .int o_403, .int o_404, .int o_405, .int o_406, .long o_407, .int o_408, .int o_409, .int v14, .int v15, .ref m16, .ref m17, .ref m18, .ref m19, .ref m20, .ref m21, .ref m22, .ref m23, .int v24, .ref m25, .ref m26, .ref m27, .ref m28, .ref m29, .int v30, .ref m31, .ref m32, .ref m33, .int v34, .int v35, .int v36, .ref m37, .ref m38, .ref m39, .ref m40, .long v41])), (m5, .inl (k 1, 1000, .inl f5))]) hP hD [4, 5] [0, 1, 2, 3, 6] rfl rfl (by decide +kernel) (by decide +kernel) hk1 hFc hP1 hD1
                clear hK1 hP1 hD1 hPc hDc hFc
                clear hk1 hz1 ht hvm
                have hP : va_P D vwCl [(m18, .inl (k 0, 250, .inl f18)), (m19, .inl (k 0, 40, .inl f19)), (m20, .inl (k 0, 120, .inl f20)), (m21, .inl (k 0, 20, .inl g_398)), (m17, .inl (k 0, 30, .inl f17)), (mo, .inr (12, [.int v0, .ref m1, .ref m2, .ref m3, .ref m4, .ref m5, .int v6, .int o_403, .int o_404, .int o_405, .int o_406, .long o_407, .int o_408, .int o_409, .int v14, .int v15, .ref m16, .ref m17, .ref m18, .ref m19, .ref m20, .ref m21, .ref m22, .ref m23, .int v24, .ref m25, .ref m26, .ref m27, .ref m28, .ref m29, .int v30, .ref m31, .ref m32, .ref m33, .int v34, .int v35, .int v36, .ref m37, .ref m38, .ref m39, .ref m40, .long v41])), (m5, .inl (k 1, 1000, .inl f5))] H1 := hP
                have hD : va_D A [(m18, .inl (k 0, 250, .inl f18)), (m19, .inl (k 0, 40, .inl f19)), (m20, .inl (k 0, 120, .inl f20)), (m21, .inl (k 0, 20, .inl g_398)), (m17, .inl (k 0, 30, .inl f17)), (mo, .inr (12, [.int v0, .ref m1, .ref m2, .ref m3, .ref m4, .ref m5, .int v6, .int o_403, .int o_404, .int o_405, .int o_406, .long o_407, .int o_408, .int o_409, .int v14, .int v15, .ref m16, .ref m17, .ref m18, .ref m19, .ref m20, .ref m21, .ref m22, .ref m23, .int v24, .ref m25, .ref m26, .ref m27, .ref m28, .ref m29, .int v30, .ref m31, .ref m32, .ref m33, .int v34, .int v35, .int v36, .ref m37, .ref m38, .ref m39, .ref m40, .long v41])), (m5, .inl (k 1, 1000, .inl f5))] := hD
                generalize H1 = H at hP hS ⊢
                have hw_410 : (0 ≤ o_403.toInt ∧ o_403.toInt ≤ 1000) ∧ (o_387.toInt ≤ o_403.toInt ∧ o_403.toInt ≤ v6.toInt) ∧ (r_402.toInt = 0 ∨ (0 ≤ r_402.toInt ∧ r_402.toInt ≤ 999)) := hw
                obtain ⟨hw_411, hw_412, hw_413⟩ := hw_410
                clear hw
                refine va_iast hx hb hK hP hD hS 3 0 rfl rfl (z_in (by omega) (by omega)) dX12_line_194 (fun H locs hP hD hS => ?_)
                obtain ⟨g_414, eg_414⟩ : ∃ z : Nat → Int32, upd g_398 x_401.toNatClampNeg r_402 = z := ⟨_, rfl⟩
                have hP : va_P D vwCl [(m18, .inl (k 0, 250, .inl f18)), (m19, .inl (k 0, 40, .inl f19)), (m20, .inl (k 0, 120, .inl f20)), (m21, .inl (k 0, 20, .inl (upd g_398 x_401.toNatClampNeg r_402))), (m17, .inl (k 0, 30, .inl f17)), (mo, .inr (12, [.int v0, .ref m1, .ref m2, .ref m3, .ref m4, .ref m5, .int v6, .int o_403, .int o_404, .int o_405, .int o_406, .long o_407, .int o_408, .int o_409, .int v14, .int v15, .ref m16, .ref m17, .ref m18, .ref m19, .ref m20, .ref m21, .ref m22, .ref m23, .int v24, .ref m25, .ref m26, .ref m27, .ref m28, .ref m29, .int v30, .ref m31, .ref m32, .ref m33, .int v34, .int v35, .int v36, .ref m37, .ref m38, .ref m39, .ref m40, .long v41])), (m5, .inl (k 1, 1000, .inl f5))] H := hP
                have hD : va_D A [(m18, .inl (k 0, 250, .inl f18)), (m19, .inl (k 0, 40, .inl f19)), (m20, .inl (k 0, 120, .inl f20)), (m21, .inl (k 0, 20, .inl (upd g_398 x_401.toNatClampNeg r_402))), (m17, .inl (k 0, 30, .inl f17)), (mo, .inr (12, [.int v0, .ref m1, .ref m2, .ref m3, .ref m4, .ref m5, .int v6, .int o_403, .int o_404, .int o_405, .int o_406, .long o_407, .int o_408, .int o_409, .int v14, .int v15, .ref m16, .ref m17, .ref m18, .ref m19, .ref m20, .ref m21, .ref m22, .ref m23, .int v24, .ref m25, .ref m26, .ref m27, .ref m28, .ref m29, .int v30, .ref m31, .ref m32, .ref m33, .int v34, .int v35, .int v36, .ref m37, .ref m38, .ref m39, .ref m40, .long v41])), (m5, .inl (k 1, 1000, .inl f5))] := hD
                rw [eg_414] at hP hD
                have hp_415 : PR 20 2 0 0 7 g_414 := by rw [← eg_414]; exact PR.other hp_399 (z_clm (by omega) (by omega))
                have hp_416 : PR 20 2 1 0 999 g_414 := by rw [← eg_414]; exact PR.put hp_400 ⟨by omega, by omega⟩
                refine lv_aload_n hx hb dX12_line_195 rfl (lv_at hl 1 rfl) ?_
                refine lv_iconst (v := 4) hx hb dX12_line_196 (by decide) ?_
                refine lv_aload_n hx hb dX12_line_197 rfl (lv_at hl 1 rfl) ?_
                refine lv_iconst (v := 4) hx hb dX12_line_198 (by decide) ?_
                obtain ⟨hPc, hDc, hFc⟩ := sub3 hP hD hS hA (ws' := [(mo, .inr (12, [.int v0, .ref m1, .ref m2, .ref m3, .ref m4, .ref m5, .int v6, .int o_403, .int o_404, .int o_405, .int o_406, .long o_407, .int o_408, .int o_409, .int v14, .int v15, .ref m16, .ref m17, .ref m18, .ref m19, .ref m20, .ref m21, .ref m22, .ref m23, .int v24, .ref m25, .ref m26, .ref m27, .ref m28, .ref m29, .int v30, .ref m31, .ref m32, .ref m33, .int v34, .int v35, .int v36, .ref m37, .ref m38, .ref m39, .ref m40, .long v41])), (m17, .inl (k 0, 30, .inl f17))]) [5, 4] (by decide +kernel) rfl
                refine va_calli (va_runV (C := RX12) (As := [.int 4]) (rest := [.int 4, .ref mo]) ⟨hx, hb, hml, hown, hts⟩ (c_X12_hasRead_4 l D k mo v0 m1 m2 m3 m4 m5 v6 o_403 o_404 o_405 o_406 o_407 o_408 o_409 v14 v15 m16 m17 m18 m19 m20 m21 m22 m23 v24 m25 m26 m27 m28 m29 v30 m31 m32 m33 v34 v35 v36 m37 m38 m39 m40 v41 f17 H.size (show 0 ≤ v6.toInt ∧ v6.toInt ≤ 1000 from by omega) (show 0 ≤ v24.toInt ∧ v24.toInt ≤ 1023 from by omega) hp_f17_0 hp_f17_1 hp_f17_2 hp_f17_3 hp_f17_4 hp_f17_5) (cwV 1 hts (gV tw_7_46 tw_7_48 tw_p_50 tw_1_13 tw_7_49) rfl rfl rfl hdV_X12_hasRead ⟨Nat.le_of_ble_eq_true rfl, Nat.le_of_ble_eq_true rfl⟩) (cz_V hK hPc hDc hN (ci := 12) (q0 := 0) rfl rfl [.int 4]) rfl rfl hl.1 rfl (lv_room (Nat.le_of_ble_eq_true rfl)) dX12_line_199 ⟨Nat.le_of_ble_eq_true rfl, Nat.le_of_ble_eq_true rfl⟩) hS (fun q _ h => hFc q h) hFc (fun r_417 uZ tZ H1 locs ht hvm hw hB hz1 hk1 hS => ?_)
                obtain ⟨hP1, hK1, hD1⟩ := hB
                rw [ht] at hP1
                obtain ⟨hP, hD⟩ := va_join (wr := [(m18, .inl (k 0, 250, .inl f18)), (m19, .inl (k 0, 40, .inl f19)), (m20, .inl (k 0, 120, .inl f20)), (m21, .inl (k 0, 20, .inl g_414)), (m5, .inl (k 1, 1000, .inl f5))]) (w1 := [(mo, .inr (12, [.int v0, .ref m1, .ref m2, .ref m3, .ref m4, .ref m5, .int v6, .int o_403, .int o_404, .int o_405, .int o_406, .long o_407, .int o_408, .int o_409, .int v14, .int v15, .ref m16, .ref m17, .ref m18, .ref m19, .ref m20, .ref m21, .ref m22, .ref m23, .int v24, .ref m25, .ref m26, .ref m27, .ref m28, .ref m29, .int v30, .ref m31, .ref m32, .ref m33, .int v34, .int v35, .int v36, .ref m37, .ref m38, .ref m39, .ref m40, .long v41])), (m17, .inl (k 0, 30, .inl f17))]) hP hD [5, 4] [0, 1, 2, 3, 6] rfl rfl (by decide +kernel) (by decide +kernel) hk1 hFc hP1 hD1
                clear hK1 hP1 hD1 hPc hDc hFc
                clear hk1 hz1 ht hvm
                have hP : va_P D vwCl [(m18, .inl (k 0, 250, .inl f18)), (m19, .inl (k 0, 40, .inl f19)), (m20, .inl (k 0, 120, .inl f20)), (m21, .inl (k 0, 20, .inl g_414)), (m5, .inl (k 1, 1000, .inl f5)), (mo, .inr (12, [.int v0, .ref m1, .ref m2, .ref m3, .ref m4, .ref m5, .int v6, .int o_403, .int o_404, .int o_405, .int o_406, .long o_407, .int o_408, .int o_409, .int v14, .int v15, .ref m16, .ref m17, .ref m18, .ref m19, .ref m20, .ref m21, .ref m22, .ref m23, .int v24, .ref m25, .ref m26, .ref m27, .ref m28, .ref m29, .int v30, .ref m31, .ref m32, .ref m33, .int v34, .int v35, .int v36, .ref m37, .ref m38, .ref m39, .ref m40, .long v41])), (m17, .inl (k 0, 30, .inl f17))] H1 := hP
                have hD : va_D A [(m18, .inl (k 0, 250, .inl f18)), (m19, .inl (k 0, 40, .inl f19)), (m20, .inl (k 0, 120, .inl f20)), (m21, .inl (k 0, 20, .inl g_414)), (m5, .inl (k 1, 1000, .inl f5)), (mo, .inr (12, [.int v0, .ref m1, .ref m2, .ref m3, .ref m4, .ref m5, .int v6, .int o_403, .int o_404, .int o_405, .int o_406, .long o_407, .int o_408, .int o_409, .int v14, .int v15, .ref m16, .ref m17, .ref m18, .ref m19, .ref m20, .ref m21, .ref m22, .ref m23, .int v24, .ref m25, .ref m26, .ref m27, .ref m28, .ref m29, .int v30, .ref m31, .ref m32, .ref m33, .int v34, .int v35, .int v36, .ref m37, .ref m38, .ref m39, .ref m40, .long v41])), (m17, .inl (k 0, 30, .inl f17))] := hD
                generalize H1 = H at hP hS ⊢
                have hw_418 : (0 ≤ r_417.toInt ∧ r_417.toInt ≤ 2) ∧ (r_417 = f17 28) := hw
                obtain ⟨hw_419, hw_420⟩ := hw_418
                clear hw
                obtain rfl : r_380 = r_417 := hw_383.trans hw_420.symm
                refine lv_iconst (v := 1) hx hb dX12_line_202 (by decide) ?_
                refine lv_iadd hx hb dX12_line_203 ?_
                refine lv_topi (fun x_421 ex_421 => ?_)
                have zx_421 : x_421.toInt = r_380.toInt + 1 := by rw [ex_421]; exact z_add rfl rfl (by omega) (by omega)
                obtain ⟨hPc, hDc, hFc⟩ := sub3 hP hD hS hA (ws' := [(mo, .inr (12, [.int v0, .ref m1, .ref m2, .ref m3, .ref m4, .ref m5, .int v6, .int o_403, .int o_404, .int o_405, .int o_406, .long o_407, .int o_408, .int o_409, .int v14, .int v15, .ref m16, .ref m17, .ref m18, .ref m19, .ref m20, .ref m21, .ref m22, .ref m23, .int v24, .ref m25, .ref m26, .ref m27, .ref m28, .ref m29, .int v30, .ref m31, .ref m32, .ref m33, .int v34, .int v35, .int v36, .ref m37, .ref m38, .ref m39, .ref m40, .long v41])), (m17, .inl (k 0, 30, .inl f17))]) [5, 6] (by decide +kernel) rfl
                refine va_callv (va_runV (C := RX12) (As := [.int 4, .int x_421]) (rest := []) ⟨hx, hb, hml, hown, hts⟩ (c_X12_tells_5 l D k mo x_421 v0 m1 m2 m3 m4 m5 v6 o_403 o_404 o_405 o_406 o_407 o_408 o_409 v14 v15 m16 m17 m18 m19 m20 m21 m22 m23 v24 m25 m26 m27 m28 m29 v30 m31 m32 m33 v34 v35 v36 m37 m38 m39 m40 v41 f17 H.size (show 0 ≤ x_421.toInt ∧ x_421.toInt ≤ 2 from by omega) (show 0 ≤ v6.toInt ∧ v6.toInt ≤ 1000 from by omega) (show 0 ≤ v24.toInt ∧ v24.toInt ≤ 1023 from by omega) hp_f17_0 hp_f17_1 hp_f17_2 hp_f17_3 hp_f17_4 hp_f17_5) (cwV 2 hts (gV tw_6_226 tw_6_228 tw_p_37 tw_1_13 tw_6_229) rfl rfl rfl hdV_X12_tells ⟨Nat.le_of_ble_eq_true rfl, Nat.le_of_ble_eq_true rfl⟩) (cz_V hK hPc hDc hN (ci := 12) (q0 := 0) rfl rfl [.int 4, .int x_421]) rfl rfl hl.1 rfl (lv_room (Nat.le_of_ble_eq_true rfl)) dX12_line_204 ⟨Nat.le_of_ble_eq_true rfl, Nat.le_of_ble_eq_true rfl⟩) hS (fun q _ h => hFc q h) hFc (fun uZ tZ H1 locs ht hvm hw hB hz1 hk1 hS => ?_)
                obtain ⟨o_423, rfl⟩ : ∃ z, z = uZ := ⟨_, rfl⟩
                obtain ⟨hP1, hK1, hD1⟩ := hB
                rw [ht] at hP1
                obtain ⟨hP, hD⟩ := va_join (wr := [(m18, .inl (k 0, 250, .inl f18)), (m19, .inl (k 0, 40, .inl f19)), (m20, .inl (k 0, 120, .inl f20)), (m21, .inl (k 0, 20, .inl g_414)), (m5, .inl (k 1, 1000, .inl f5))]) (w1 := [(mo, .inr (12, [.int v0, .ref m1, .ref m2, .ref m3, .ref m4, .ref m5, .int v6, .int o_403, .int o_404, .int o_405, .int o_406, .long o_407, .int o_408, .int o_409, .int v14, .int v15, .ref m16, .ref m17, .ref m18, .ref m19, .ref m20, .ref m21, .ref m22, .ref m23, .int v24, .ref m25, .ref m26, .ref m27, .ref m28, .ref m29, .int v30, .ref m31, .ref m32, .ref m33, .int v34, .int v35, .int v36, .ref m37, .ref m38, .ref m39, .ref m40, .long v41])), (m17, .inl (k 0, 30, .inl o_423))]) hP hD [5, 6] [0, 1, 2, 3, 4] rfl rfl (by decide +kernel) (by decide +kernel) hk1 hFc hP1 hD1
                clear hK1 hP1 hD1 hPc hDc hFc
                clear hk1 hz1 ht hvm
                have hP : va_P D vwCl [(m18, .inl (k 0, 250, .inl f18)), (m19, .inl (k 0, 40, .inl f19)), (m20, .inl (k 0, 120, .inl f20)), (m21, .inl (k 0, 20, .inl g_414)), (m5, .inl (k 1, 1000, .inl f5)), (mo, .inr (12, [.int v0, .ref m1, .ref m2, .ref m3, .ref m4, .ref m5, .int v6, .int o_403, .int o_404, .int o_405, .int o_406, .long o_407, .int o_408, .int o_409, .int v14, .int v15, .ref m16, .ref m17, .ref m18, .ref m19, .ref m20, .ref m21, .ref m22, .ref m23, .int v24, .ref m25, .ref m26, .ref m27, .ref m28, .ref m29, .int v30, .ref m31, .ref m32, .ref m33, .int v34, .int v35, .int v36, .ref m37, .ref m38, .ref m39, .ref m40, .long v41])), (m17, .inl (k 0, 30, .inl o_423))] H1 := hP
                have hD : va_D A [(m18, .inl (k 0, 250, .inl f18)), (m19, .inl (k 0, 40, .inl f19)), (m20, .inl (k 0, 120, .inl f20)), (m21, .inl (k 0, 20, .inl g_414)), (m5, .inl (k 1, 1000, .inl f5)), (mo, .inr (12, [.int v0, .ref m1, .ref m2, .ref m3, .ref m4, .ref m5, .int v6, .int o_403, .int o_404, .int o_405, .int o_406, .long o_407, .int o_408, .int o_409, .int v14, .int v15, .ref m16, .ref m17, .ref m18, .ref m19, .ref m20, .ref m21, .ref m22, .ref m23, .int v24, .ref m25, .ref m26, .ref m27, .ref m28, .ref m29, .int v30, .ref m31, .ref m32, .ref m33, .int v34, .int v35, .int v36, .ref m37, .ref m38, .ref m39, .ref m40, .long v41])), (m17, .inl (k 0, 30, .inl o_423))] := hD
                generalize H1 = H at hP hS ⊢
                have hw_424 : (PR 30 6 0 0 8 o_423) ∧ (PR 30 6 1 0 10 o_423) ∧ (PR 30 6 2 0 4 o_423) ∧ (PR 30 6 3 0 6 o_423) ∧ (PR 30 6 4 0 2 o_423) ∧ (PR 30 6 5 0 40 o_423) ∧ (o_423 = upd f17 28 x_421) := hw
                obtain ⟨hw_425, hw_426, hw_427, hw_428, hw_429, hw_430, hw_431⟩ := hw_424
                clear hw
                have tk_432 : TK o_423 f18 := by rw [hw_431]; exact TK.other hTK (by decide)
                refine lv_goto (tgt := 222) hx hb dX12_line_207 (by decide) ?_
                obtain ⟨hP9, hD9⟩ := sub2 hP hD (ws' := [(mo, .inr (12, [.int v0, .ref m1, .ref m2, .ref m3, .ref m4, .ref m5, .int v6, .int o_403, .int o_404, .int o_405, .int o_406, .long o_407, .int o_408, .int o_409, .int v14, .int v15, .ref m16, .ref m17, .ref m18, .ref m19, .ref m20, .ref m21, .ref m22, .ref m23, .int v24, .ref m25, .ref m26, .ref m27, .ref m28, .ref m29, .int v30, .ref m31, .ref m32, .ref m33, .int v34, .int v35, .int v36, .ref m37, .ref m38, .ref m39, .ref m40, .long v41])), (m5, .inl (k 1, 1000, .inl f5)), (m17, .inl (k 0, 30, .inl o_423)), (m18, .inl (k 0, 250, .inl f18)), (m19, .inl (k 0, 40, .inl f19)), (m20, .inl (k 0, 120, .inl f20)), (m21, .inl (k 0, 20, .inl g_414))]) [5, 4, 6, 0, 1, 2, 3] (by decide +kernel) rfl
                exact W.vret hx hb hr (fun tZ ht hW => ⟨⟨(o_403, o_404, o_405, o_406, o_407, o_408, o_409, o_423, g_414, f20, f19, f18), rfl, ⟨(show 0 ≤ o_403.toInt ∧ o_403.toInt ≤ 1000 from by omega), hw_425, hw_426, hw_427, hw_428, hw_429, hw_430, hp_415, hp_416, hp_f20_0, hp_f19_0, hp_f19_1, hp_f18_0, hp_f18_1, hp_f18_2, hp_f18_3, (show v7.toInt ≤ o_403.toInt ∧ o_403.toInt ≤ v6.toInt from by omega), tk_432⟩, by rw [ht]; exact hP9, va_K.moved hW.alike hK, hD9⟩, hS.F ht⟩) hS.2.2 dX12_line_222
          · skip
            have zh_348 : ¬ r_334.toInt = 0 := z_ne h_348
            refine lv_aload_n hx hb dX12_line_125 rfl (lv_at hl 0 rfl) ?_
            obtain ⟨hPc, hDc, hFc⟩ := sub3 hP hD hS hA (ws' := [(mo, .inr (12, [.int v0, .ref m1, .ref m2, .ref m3, .ref m4, .ref m5, .int v6, .int o_335, .int o_336, .int o_337, .int o_338, .long o_339, .int o_340, .int o_341, .int v14, .int v15, .ref m16, .ref m17, .ref m18, .ref m19, .ref m20, .ref m21, .ref m22, .ref m23, .int v24, .ref m25, .ref m26, .ref m27, .ref m28, .ref m29, .int v30, .ref m31, .ref m32, .ref m33, .int v34, .int v35, .int v36, .ref m37, .ref m38, .ref m39, .ref m40, .long v41])), (m5, .inl (k 1, 1000, .inl f5)), (m17, .inl (k 0, 30, .inl f17)), (m18, .inl (k 0, 250, .inl f18)), (m20, .inl (k 0, 120, .inl f20))]) [4, 5, 6, 0, 2] (by decide +kernel) rfl
            refine va_callv (va_runV (C := RX12) (As := []) (rest := []) ⟨hx, hb, hml, hown, hts⟩ (c_X12_houseLine l D k mo v0 m1 m2 m3 m4 m5 v6 o_335 o_336 o_337 o_338 o_339 o_340 o_341 v14 v15 m16 m17 m18 m19 m20 m21 m22 m23 v24 m25 m26 m27 m28 m29 v30 m31 m32 m33 v34 v35 v36 m37 m38 m39 m40 v41 f5 f17 f18 f20 H.size (show 0 ≤ v6.toInt ∧ v6.toInt ≤ 1000 from by omega) (show 0 ≤ o_335.toInt ∧ o_335.toInt ≤ 1000 from by omega) (show 0 ≤ v24.toInt ∧ v24.toInt ≤ 1023 from by omega) hp_f17_0 hp_f17_1 hp_f17_2 hp_f17_3 hp_f17_4 hp_f17_5 hp_f18_0 hp_f18_1 hp_f18_2 hp_f18_3 hp_f20_0 (show o_335.toInt ≤ v6.toInt from by omega) (show (f17 27).toInt ≤ 5 from by omega) hTK) (cwV 0 hts (gV tw_7_70 tw_7_72 tw_p_54 tw_1_13 tw_7_73) rfl rfl rfl hdV_X12_houseLine ⟨Nat.le_of_ble_eq_true rfl, Nat.le_of_ble_eq_true rfl⟩) (cz_V hK hPc hDc hN (ci := 12) (q0 := 0) rfl rfl []) rfl rfl hl.1 rfl (lv_room (Nat.le_of_ble_eq_true rfl)) dX12_line_126 ⟨Nat.le_of_ble_eq_true rfl, Nat.le_of_ble_eq_true rfl⟩) hS (fun q _ h => hFc q h) hFc (fun uZ tZ H1 locs ht hvm hw hB hz1 hk1 hS => ?_)
            obtain ⟨o_434, o_435, o_436, o_437, o_438, o_439, o_440, o_441, o_442⟩ := uZ
            obtain ⟨hP1, hK1, hD1⟩ := hB
            rw [ht] at hP1
            obtain ⟨hP, hD⟩ := va_join (wr := [(m19, .inl (k 0, 40, .inl f19)), (m21, .inl (k 0, 20, .inl f21))]) (w1 := [(mo, .inr (12, [.int v0, .ref m1, .ref m2, .ref m3, .ref m4, .ref m5, .int v6, .int o_434, .int o_435, .int o_436, .int o_437, .long o_438, .int o_439, .int o_440, .int v14, .int v15, .ref m16, .ref m17, .ref m18, .ref m19, .ref m20, .ref m21, .ref m22, .ref m23, .int v24, .ref m25, .ref m26, .ref m27, .ref m28, .ref m29, .int v30, .ref m31, .ref m32, .ref m33, .int v34, .int v35, .int v36, .ref m37, .ref m38, .ref m39, .ref m40, .long v41])), (m5, .inl (k 1, 1000, .inl f5)), (m17, .inl (k 0, 30, .inl o_441)), (m18, .inl (k 0, 250, .inl f18)), (m20, .inl (k 0, 120, .inl o_442))]) hP hD [4, 5, 6, 0, 2] [1, 3] rfl rfl (by decide +kernel) (by decide +kernel) hk1 hFc hP1 hD1
            clear hK1 hP1 hD1 hPc hDc hFc
            clear hk1 hz1 ht hvm
            have hP : va_P D vwCl [(m19, .inl (k 0, 40, .inl f19)), (m21, .inl (k 0, 20, .inl f21)), (mo, .inr (12, [.int v0, .ref m1, .ref m2, .ref m3, .ref m4, .ref m5, .int v6, .int o_434, .int o_435, .int o_436, .int o_437, .long o_438, .int o_439, .int o_440, .int v14, .int v15, .ref m16, .ref m17, .ref m18, .ref m19, .ref m20, .ref m21, .ref m22, .ref m23, .int v24, .ref m25, .ref m26, .ref m27, .ref m28, .ref m29, .int v30, .ref m31, .ref m32, .ref m33, .int v34, .int v35, .int v36, .ref m37, .ref m38, .ref m39, .ref m40, .long v41])), (m5, .inl (k 1, 1000, .inl f5)), (m17, .inl (k 0, 30, .inl o_441)), (m18, .inl (k 0, 250, .inl f18)), (m20, .inl (k 0, 120, .inl o_442))] H1 := hP
            have hD : va_D A [(m19, .inl (k 0, 40, .inl f19)), (m21, .inl (k 0, 20, .inl f21)), (mo, .inr (12, [.int v0, .ref m1, .ref m2, .ref m3, .ref m4, .ref m5, .int v6, .int o_434, .int o_435, .int o_436, .int o_437, .long o_438, .int o_439, .int o_440, .int v14, .int v15, .ref m16, .ref m17, .ref m18, .ref m19, .ref m20, .ref m21, .ref m22, .ref m23, .int v24, .ref m25, .ref m26, .ref m27, .ref m28, .ref m29, .int v30, .ref m31, .ref m32, .ref m33, .int v34, .int v35, .int v36, .ref m37, .ref m38, .ref m39, .ref m40, .long v41])), (m5, .inl (k 1, 1000, .inl f5)), (m17, .inl (k 0, 30, .inl o_441)), (m18, .inl (k 0, 250, .inl f18)), (m20, .inl (k 0, 120, .inl o_442))] := hD
            generalize H1 = H at hP hS ⊢
            have hw_443 : (0 ≤ o_434.toInt ∧ o_434.toInt ≤ 1000) ∧ (PR 30 6 0 0 8 o_441) ∧ (PR 30 6 1 0 10 o_441) ∧ (PR 30 6 2 0 4 o_441) ∧ (PR 30 6 3 0 6 o_441) ∧ (PR 30 6 4 0 2 o_441) ∧ (PR 30 6 5 0 40 o_441) ∧ (PR 120 4 0 0 7 o_442) ∧ (o_335.toInt ≤ o_434.toInt ∧ o_434.toInt ≤ v6.toInt) ∧ (TK o_441 f18) := hw
            obtain ⟨hw_444, hw_445, hw_446, hw_447, hw_448, hw_449, hw_450, hw_451, hw_452, hw_453⟩ := hw_443
            clear hw
            refine lv_goto (tgt := 222) hx hb dX12_line_129 (by decide) ?_
            obtain ⟨hP9, hD9⟩ := sub2 hP hD (ws' := [(mo, .inr (12, [.int v0, .ref m1, .ref m2, .ref m3, .ref m4, .ref m5, .int v6, .int o_434, .int o_435, .int o_436, .int o_437, .long o_438, .int o_439, .int o_440, .int v14, .int v15, .ref m16, .ref m17, .ref m18, .ref m19, .ref m20, .ref m21, .ref m22, .ref m23, .int v24, .ref m25, .ref m26, .ref m27, .ref m28, .ref m29, .int v30, .ref m31, .ref m32, .ref m33, .int v34, .int v35, .int v36, .ref m37, .ref m38, .ref m39, .ref m40, .long v41])), (m5, .inl (k 1, 1000, .inl f5)), (m17, .inl (k 0, 30, .inl o_441)), (m18, .inl (k 0, 250, .inl f18)), (m19, .inl (k 0, 40, .inl f19)), (m20, .inl (k 0, 120, .inl o_442)), (m21, .inl (k 0, 20, .inl f21))]) [2, 3, 4, 5, 0, 6, 1] (by decide +kernel) rfl
            exact W.vret hx hb hr (fun tZ ht hW => ⟨⟨(o_434, o_435, o_436, o_437, o_438, o_439, o_440, o_441, f21, o_442, f19, f18), rfl, ⟨(show 0 ≤ o_434.toInt ∧ o_434.toInt ≤ 1000 from by omega), hw_445, hw_446, hw_447, hw_448, hw_449, hw_450, hp_f21_0, hp_f21_1, hw_451, hp_f19_0, hp_f19_1, hp_f18_0, hp_f18_1, hp_f18_2, hp_f18_3, (show v7.toInt ≤ o_434.toInt ∧ o_434.toInt ≤ v6.toInt from by omega), hw_453⟩, by rw [ht]; exact hP9, va_K.moved hW.alike hK, hD9⟩, hS.F ht⟩) hS.2.2 dX12_line_222
      · skip
        have zh_245 : ¬ r_231.toInt = 0 := z_ne h_245
        refine lv_iconst (v := 2) hx hb dX12_line_47 (by decide) ?_
        refine lv_bipush (v := 16) hx hb dX12_line_48 (by decide) ?_
        refine lv_aload_n hx hb dX12_line_50 rfl (lv_at hl 0 rfl) ?_
        refine lv_iconst (v := 2) hx hb dX12_line_51 (by decide) ?_
        obtain ⟨hPc, hDc, hFc⟩ := sub3 hP hD hS hA (ws' := [(mo, .inr (12, [.int v0, .ref m1, .ref m2, .ref m3, .ref m4, .ref m5, .int v6, .int o_232, .int o_233, .int o_234, .int o_235, .long o_236, .int o_237, .int o_238, .int v14, .int v15, .ref m16, .ref m17, .ref m18, .ref m19, .ref m20, .ref m21, .ref m22, .ref m23, .int v24, .ref m25, .ref m26, .ref m27, .ref m28, .ref m29, .int v30, .ref m31, .ref m32, .ref m33, .int v34, .int v35, .int v36, .ref m37, .ref m38, .ref m39, .ref m40, .long v41])), (m17, .inl (k 0, 30, .inl f17))]) [4, 6] (by decide +kernel) rfl
        refine va_calli (va_runV (C := RX12) (As := [.int 2]) (rest := [.int 16, .int 2]) ⟨hx, hb, hml, hown, hts⟩ (c_X12_hasRead_2 l D k mo v0 m1 m2 m3 m4 m5 v6 o_232 o_233 o_234 o_235 o_236 o_237 o_238 v14 v15 m16 m17 m18 m19 m20 m21 m22 m23 v24 m25 m26 m27 m28 m29 v30 m31 m32 m33 v34 v35 v36 m37 m38 m39 m40 v41 f17 H.size (show 0 ≤ v6.toInt ∧ v6.toInt ≤ 1000 from by omega) (show 0 ≤ v24.toInt ∧ v24.toInt ≤ 1023 from by omega) hp_f17_0 hp_f17_1 hp_f17_2 hp_f17_3 hp_f17_4 hp_f17_5) (cwV 1 hts (gV tw_7_46 tw_7_48 tw_p_50 tw_1_13 tw_7_49) rfl rfl rfl hdV_X12_hasRead ⟨Nat.le_of_ble_eq_true rfl, Nat.le_of_ble_eq_true rfl⟩) (cz_V hK hPc hDc hN (ci := 12) (q0 := 0) rfl rfl [.int 2]) rfl rfl hl.1 rfl (lv_room (Nat.le_of_ble_eq_true rfl)) dX12_line_52 ⟨Nat.le_of_ble_eq_true rfl, Nat.le_of_ble_eq_true rfl⟩) hS (fun q _ h => hFc q h) hFc (fun r_454 uZ tZ H1 locs ht hvm hw hB hz1 hk1 hS => ?_)
        obtain ⟨hP1, hK1, hD1⟩ := hB
        rw [ht] at hP1
        obtain ⟨hP, hD⟩ := va_join (wr := [(m18, .inl (k 0, 250, .inl f18)), (m19, .inl (k 0, 40, .inl f19)), (m20, .inl (k 0, 120, .inl f20)), (m21, .inl (k 0, 20, .inl f21)), (m5, .inl (k 1, 1000, .inl f5))]) (w1 := [(mo, .inr (12, [.int v0, .ref m1, .ref m2, .ref m3, .ref m4, .ref m5, .int v6, .int o_232, .int o_233, .int o_234, .int o_235, .long o_236, .int o_237, .int o_238, .int v14, .int v15, .ref m16, .ref m17, .ref m18, .ref m19, .ref m20, .ref m21, .ref m22, .ref m23, .int v24, .ref m25, .ref m26, .ref m27, .ref m28, .ref m29, .int v30, .ref m31, .ref m32, .ref m33, .int v34, .int v35, .int v36, .ref m37, .ref m38, .ref m39, .ref m40, .long v41])), (m17, .inl (k 0, 30, .inl f17))]) hP hD [4, 6] [0, 1, 2, 3, 5] rfl rfl (by decide +kernel) (by decide +kernel) hk1 hFc hP1 hD1
        clear hK1 hP1 hD1 hPc hDc hFc
        clear hk1 hz1 ht hvm
        have hP : va_P D vwCl [(m18, .inl (k 0, 250, .inl f18)), (m19, .inl (k 0, 40, .inl f19)), (m20, .inl (k 0, 120, .inl f20)), (m21, .inl (k 0, 20, .inl f21)), (m5, .inl (k 1, 1000, .inl f5)), (mo, .inr (12, [.int v0, .ref m1, .ref m2, .ref m3, .ref m4, .ref m5, .int v6, .int o_232, .int o_233, .int o_234, .int o_235, .long o_236, .int o_237, .int o_238, .int v14, .int v15, .ref m16, .ref m17, .ref m18, .ref m19, .ref m20, .ref m21, .ref m22, .ref m23, .int v24, .ref m25, .ref m26, .ref m27, .ref m28, .ref m29, .int v30, .ref m31, .ref m32, .ref m33, .int v34, .int v35, .int v36, .ref m37, .ref m38, .ref m39, .ref m40, .long v41])), (m17, .inl (k 0, 30, .inl f17))] H1 := hP
        have hD : va_D A [(m18, .inl (k 0, 250, .inl f18)), (m19, .inl (k 0, 40, .inl f19)), (m20, .inl (k 0, 120, .inl f20)), (m21, .inl (k 0, 20, .inl f21)), (m5, .inl (k 1, 1000, .inl f5)), (mo, .inr (12, [.int v0, .ref m1, .ref m2, .ref m3, .ref m4, .ref m5, .int v6, .int o_232, .int o_233, .int o_234, .int o_235, .long o_236, .int o_237, .int o_238, .int v14, .int v15, .ref m16, .ref m17, .ref m18, .ref m19, .ref m20, .ref m21, .ref m22, .ref m23, .int v24, .ref m25, .ref m26, .ref m27, .ref m28, .ref m29, .int v30, .ref m31, .ref m32, .ref m33, .int v34, .int v35, .int v36, .ref m37, .ref m38, .ref m39, .ref m40, .long v41])), (m17, .inl (k 0, 30, .inl f17))] := hD
        generalize H1 = H at hP hS ⊢
        have hw_455 : (0 ≤ r_454.toInt ∧ r_454.toInt ≤ 4) ∧ (r_454 = f17 26) := hw
        obtain ⟨hw_456, hw_457⟩ := hw_455
        clear hw
        have zhr_454 : r_454.toInt = (f17 26).toInt := by rw [hw_457]
        refine lv_iadd hx hb dX12_line_55 ?_
        refine lv_topi (fun x_458 ex_458 => ?_)
        have zx_458 : x_458.toInt = 16 + r_454.toInt := by rw [ex_458]; exact z_add rfl rfl (by omega) (by omega)
        refine lv_imul hx hb dX12_line_56 ?_
        refine lv_topi (fun x_459 ex_459 => ?_)
        have zx_459 : x_459.toInt = 2 * x_458.toInt := by rw [ex_459]; exact z_mul rfl rfl (by omega) (by omega)
        refine lv_istore_n (lv' := [(1, .int x_459), (0, .ref mo)]) hx hb dX12_line_57 rfl hl (by decide) rfl (fun ls hl => ?_)
        refine lv_aload_n hx hb dX12_line_58 rfl (lv_at hl 1 rfl) ?_
        refine va_get (D := D) (ci := 12) (v := .ref m19) (C := RX12) (T := TX12) (N := 42) hx hb hts iT_X12 hown hK hP 5 rfl rfl 19 (by decide) (hts _ tw_6_72) (fun _ h9 => h9) rfl dX12_line_59 ?_
        refine lv_iload_n hx hb dX12_line_62 rfl (lv_at hl 0 rfl) ?_
        refine lv_aload_n hx hb dX12_line_63 rfl (lv_at hl 1 rfl) ?_
        obtain ⟨hPc, hDc, hFc⟩ := sub3 hP hD hS hA (ws' := [(mo, .inr (12, [.int v0, .ref m1, .ref m2, .ref m3, .ref m4, .ref m5, .int v6, .int o_232, .int o_233, .int o_234, .int o_235, .long o_236, .int o_237, .int o_238, .int v14, .int v15, .ref m16, .ref m17, .ref m18, .ref m19, .ref m20, .ref m21, .ref m22, .ref m23, .int v24, .ref m25, .ref m26, .ref m27, .ref m28, .ref m29, .int v30, .ref m31, .ref m32, .ref m33, .int v34, .int v35, .int v36, .ref m37, .ref m38, .ref m39, .ref m40, .long v41])), (m5, .inl (k 1, 1000, .inl f5)), (m17, .inl (k 0, 30, .inl f17))]) [5, 4, 6] (by decide +kernel) rfl
        refine va_calli (va_runV (C := RX12) (As := []) (rest := [.int x_459, .ref m19]) ⟨hx, hb, hml, hown, hts⟩ (c_X12_streetAt l D k mo v0 m1 m2 m3 m4 m5 v6 o_232 o_233 o_234 o_235 o_236 o_237 o_238 v14 v15 m16 m17 m18 m19 m20 m21 m22 m23 v24 m25 m26 m27 m28 m29 v30 m31 m32 m33 v34 v35 v36 m37 m38 m39 m40 v41 f5 f17 H.size (show 0 ≤ v6.toInt ∧ v6.toInt ≤ 1000 from by omega) (show 0 ≤ o_232.toInt ∧ o_232.toInt ≤ 1000 from by omega) (show 0 ≤ v24.toInt ∧ v24.toInt ≤ 1023 from by omega) hp_f17_0 hp_f17_1 hp_f17_2 hp_f17_3 hp_f17_4 hp_f17_5 (show o_232.toInt ≤ v6.toInt from by omega)) (cwV 0 hts (gV tw_7_63 tw_7_65 tw_p_53 tw_1_13 tw_7_66) rfl rfl rfl hdV_X12_streetAt ⟨Nat.le_of_ble_eq_true rfl, Nat.le_of_ble_eq_true rfl⟩) (cz_V hK hPc hDc hN (ci := 12) (q0 := 0) rfl rfl []) rfl rfl hl.1 rfl (lv_room (Nat.le_of_ble_eq_true rfl)) dX12_line_64 ⟨Nat.le_of_ble_eq_true rfl, Nat.le_of_ble_eq_true rfl⟩) hS (fun q _ h => hFc q h) hFc (fun r_460 uZ tZ H1 locs ht hvm hw hB hz1 hk1 hS => ?_)
        obtain ⟨o_461, o_462, o_463, o_464, o_465, o_466, o_467⟩ := uZ
        obtain ⟨hP1, hK1, hD1⟩ := hB
        rw [ht] at hP1
        obtain ⟨hP, hD⟩ := va_join (wr := [(m18, .inl (k 0, 250, .inl f18)), (m19, .inl (k 0, 40, .inl f19)), (m20, .inl (k 0, 120, .inl f20)), (m21, .inl (k 0, 20, .inl f21))]) (w1 := [(mo, .inr (12, [.int v0, .ref m1, .ref m2, .ref m3, .ref m4, .ref m5, .int v6, .int o_461, .int o_462, .int o_463, .int o_464, .long o_465, .int o_466, .int o_467, .int v14, .int v15, .ref m16, .ref m17, .ref m18, .ref m19, .ref m20, .ref m21, .ref m22, .ref m23, .int v24, .ref m25, .ref m26, .ref m27, .ref m28, .ref m29, .int v30, .ref m31, .ref m32, .ref m33, .int v34, .int v35, .int v36, .ref m37, .ref m38, .ref m39, .ref m40, .long v41])), (m5, .inl (k 1, 1000, .inl f5)), (m17, .inl (k 0, 30, .inl f17))]) hP hD [5, 4, 6] [0, 1, 2, 3] rfl rfl (by decide +kernel) (by decide +kernel) hk1 hFc hP1 hD1
        clear hK1 hP1 hD1 hPc hDc hFc
        clear hk1 hz1 ht hvm
        have hP : va_P D vwCl [(m18, .inl (k 0, 250, .inl f18)), (m19, .inl (k 0, 40, .inl f19)), (m20, .inl (k 0, 120, .inl f20)), (m21, .inl (k 0, 20, .inl f21)), (mo, .inr (12, [.int v0, .ref m1, .ref m2, .ref m3, .ref m4, .ref m5, .int v6, .int o_461, .int o_462, .int o_463, .int o_464, .long o_465, .int o_466, .int o_467, .int v14, .int v15, .ref m16, .ref m17, .ref m18, .ref m19, .ref m20, .ref m21, .ref m22, .ref m23, .int v24, .ref m25, .ref m26, .ref m27, .ref m28, .ref m29, .int v30, .ref m31, .ref m32, .ref m33, .int v34, .int v35, .int v36, .ref m37, .ref m38, .ref m39, .ref m40, .long v41])), (m5, .inl (k 1, 1000, .inl f5)), (m17, .inl (k 0, 30, .inl f17))] H1 := hP
        have hD : va_D A [(m18, .inl (k 0, 250, .inl f18)), (m19, .inl (k 0, 40, .inl f19)), (m20, .inl (k 0, 120, .inl f20)), (m21, .inl (k 0, 20, .inl f21)), (mo, .inr (12, [.int v0, .ref m1, .ref m2, .ref m3, .ref m4, .ref m5, .int v6, .int o_461, .int o_462, .int o_463, .int o_464, .long o_465, .int o_466, .int o_467, .int v14, .int v15, .ref m16, .ref m17, .ref m18, .ref m19, .ref m20, .ref m21, .ref m22, .ref m23, .int v24, .ref m25, .ref m26, .ref m27, .ref m28, .ref m29, .int v30, .ref m31, .ref m32, .ref m33, .int v34, .int v35, .int v36, .ref m37, .ref m38, .ref m39, .ref m40, .long v41])), (m5, .inl (k 1, 1000, .inl f5)), (m17, .inl (k 0, 30, .inl f17))] := hD
        generalize H1 = H at hP hS ⊢
        have hw_468 : (0 ≤ r_460.toInt ∧ r_460.toInt ≤ 7) ∧ (0 ≤ o_461.toInt ∧ o_461.toInt ≤ 1000) ∧ (o_232.toInt ≤ o_461.toInt ∧ o_461.toInt ≤ v6.toInt) := hw
        obtain ⟨hw_469, hw_470, hw_471⟩ := hw_468
        clear hw
        refine va_iast hx hb hK hP hD hS 1 0 rfl rfl (z_in (by omega) (by omega)) dX12_line_67 (fun H locs hP hD hS => ?_)
        obtain ⟨g_472, eg_472⟩ : ∃ z : Nat → Int32, upd f19 x_459.toNatClampNeg r_460 = z := ⟨_, rfl⟩
        have hP : va_P D vwCl [(m18, .inl (k 0, 250, .inl f18)), (m19, .inl (k 0, 40, .inl (upd f19 x_459.toNatClampNeg r_460))), (m20, .inl (k 0, 120, .inl f20)), (m21, .inl (k 0, 20, .inl f21)), (mo, .inr (12, [.int v0, .ref m1, .ref m2, .ref m3, .ref m4, .ref m5, .int v6, .int o_461, .int o_462, .int o_463, .int o_464, .long o_465, .int o_466, .int o_467, .int v14, .int v15, .ref m16, .ref m17, .ref m18, .ref m19, .ref m20, .ref m21, .ref m22, .ref m23, .int v24, .ref m25, .ref m26, .ref m27, .ref m28, .ref m29, .int v30, .ref m31, .ref m32, .ref m33, .int v34, .int v35, .int v36, .ref m37, .ref m38, .ref m39, .ref m40, .long v41])), (m5, .inl (k 1, 1000, .inl f5)), (m17, .inl (k 0, 30, .inl f17))] H := hP
        have hD : va_D A [(m18, .inl (k 0, 250, .inl f18)), (m19, .inl (k 0, 40, .inl (upd f19 x_459.toNatClampNeg r_460))), (m20, .inl (k 0, 120, .inl f20)), (m21, .inl (k 0, 20, .inl f21)), (mo, .inr (12, [.int v0, .ref m1, .ref m2, .ref m3, .ref m4, .ref m5, .int v6, .int o_461, .int o_462, .int o_463, .int o_464, .long o_465, .int o_466, .int o_467, .int v14, .int v15, .ref m16, .ref m17, .ref m18, .ref m19, .ref m20, .ref m21, .ref m22, .ref m23, .int v24, .ref m25, .ref m26, .ref m27, .ref m28, .ref m29, .int v30, .ref m31, .ref m32, .ref m33, .int v34, .int v35, .int v36, .ref m37, .ref m38, .ref m39, .ref m40, .long v41])), (m5, .inl (k 1, 1000, .inl f5)), (m17, .inl (k 0, 30, .inl f17))] := hD
        rw [eg_472] at hP hD
        have hp_473 : PR 40 2 0 0 7 g_472 := by rw [← eg_472]; exact PR.put hp_f19_0 ⟨by omega, by omega⟩
        have hp_474 : PR 40 2 1 0 99 g_472 := by rw [← eg_472]; exact PR.other hp_f19_1 (z_clm (by omega) (by omega))
        refine lv_aload_n hx hb dX12_line_68 rfl (lv_at hl 1 rfl) ?_
        refine va_get (D := D) (ci := 12) (v := .ref m19) (C := RX12) (T := TX12) (N := 42) hx hb hts iT_X12 hown hK hP 4 rfl rfl 19 (by decide) (hts _ tw_6_72) (fun _ h9 => h9) rfl dX12_line_69 ?_
        refine lv_iload_n hx hb dX12_line_72 rfl (lv_at hl 0 rfl) ?_
        refine lv_iconst (v := 1) hx hb dX12_line_73 (by decide) ?_
        refine lv_iadd hx hb dX12_line_74 ?_
        refine lv_topi (fun x_475 ex_475 => ?_)
        have zx_475 : x_475.toInt = x_459.toInt + 1 := by rw [ex_475]; exact z_add rfl rfl (by omega) (by omega)
        refine lv_aload_n hx hb dX12_line_75 rfl (lv_at hl 1 rfl) ?_
        refine lv_ldc2 (v := 4555648) hx hb hown (hts _ tw_7_68) dX12_line_76 ?_
        refine lv_iconst (v := 0) hx hb dX12_line_79 (by decide) ?_
        refine lv_bipush (v := 99) hx hb dX12_line_80 (by decide) ?_
        obtain ⟨hPc, hDc, hFc⟩ := sub3 hP hD hS hA (ws' := [(mo, .inr (12, [.int v0, .ref m1, .ref m2, .ref m3, .ref m4, .ref m5, .int v6, .int o_461, .int o_462, .int o_463, .int o_464, .long o_465, .int o_466, .int o_467, .int v14, .int v15, .ref m16, .ref m17, .ref m18, .ref m19, .ref m20, .ref m21, .ref m22, .ref m23, .int v24, .ref m25, .ref m26, .ref m27, .ref m28, .ref m29, .int v30, .ref m31, .ref m32, .ref m33, .int v34, .int v35, .int v36, .ref m37, .ref m38, .ref m39, .ref m40, .long v41])), (m5, .inl (k 1, 1000, .inl f5))]) [4, 5] (by decide +kernel) rfl
        refine va_calli (va_runV (C := RX12) (As := [.long 4555648, .int 0, .int 99]) (rest := [.int x_475, .ref m19]) ⟨hx, hb, hml, hown, hts⟩ (c_X12_number_ l D k mo 4555648 0 99 v0 m1 m2 m3 m4 m5 v6 o_461 o_462 o_463 o_464 o_465 o_466 o_467 v14 v15 m16 m17 m18 m19 m20 m21 m22 m23 v24 m25 m26 m27 m28 m29 v30 m31 m32 m33 v34 v35 v36 m37 m38 m39 m40 v41 f5 H.size (show 0 ≤ v6.toInt ∧ v6.toInt ≤ 1000 from by omega) (show 0 ≤ o_461.toInt ∧ o_461.toInt ≤ 1000 from by omega) (show 0 ≤ v24.toInt ∧ v24.toInt ≤ 1023 from by omega) (show o_461.toInt ≤ v6.toInt from by omega)) (cwV 3 hts (gV tw_7_29 tw_7_31 tw_p_46 tw_1_13 tw_7_32) rfl rfl rfl hdV_X12_number_ ⟨Nat.le_of_ble_eq_true rfl, Nat.le_of_ble_eq_true rfl⟩) (cz_V hK hPc hDc hN (ci := 12) (q0 := 0) rfl rfl [.long 4555648, .int 0, .int 99]) rfl rfl hl.1 rfl (lv_room (Nat.le_of_ble_eq_true rfl)) dX12_line_82 ⟨Nat.le_of_ble_eq_true rfl, Nat.le_of_ble_eq_true rfl⟩) hS (fun q _ h => hFc q h) hFc (fun r_476 uZ tZ H1 locs ht hvm hw hB hz1 hk1 hS => ?_)
        obtain ⟨o_477, o_478, o_479, o_480, o_481, o_482, o_483⟩ := uZ
        obtain ⟨hP1, hK1, hD1⟩ := hB
        rw [ht] at hP1
        obtain ⟨hP, hD⟩ := va_join (wr := [(m18, .inl (k 0, 250, .inl f18)), (m19, .inl (k 0, 40, .inl g_472)), (m20, .inl (k 0, 120, .inl f20)), (m21, .inl (k 0, 20, .inl f21)), (m17, .inl (k 0, 30, .inl f17))]) (w1 := [(mo, .inr (12, [.int v0, .ref m1, .ref m2, .ref m3, .ref m4, .ref m5, .int v6, .int o_477, .int o_478, .int o_479, .int o_480, .long o_481, .int o_482, .int o_483, .int v14, .int v15, .ref m16, .ref m17, .ref m18, .ref m19, .ref m20, .ref m21, .ref m22, .ref m23, .int v24, .ref m25, .ref m26, .ref m27, .ref m28, .ref m29, .int v30, .ref m31, .ref m32, .ref m33, .int v34, .int v35, .int v36, .ref m37, .ref m38, .ref m39, .ref m40, .long v41])), (m5, .inl (k 1, 1000, .inl f5))]) hP hD [4, 5] [0, 1, 2, 3, 6] rfl rfl (by decide +kernel) (by decide +kernel) hk1 hFc hP1 hD1
        clear hK1 hP1 hD1 hPc hDc hFc
        clear hk1 hz1 ht hvm
        have hP : va_P D vwCl [(m18, .inl (k 0, 250, .inl f18)), (m19, .inl (k 0, 40, .inl g_472)), (m20, .inl (k 0, 120, .inl f20)), (m21, .inl (k 0, 20, .inl f21)), (m17, .inl (k 0, 30, .inl f17)), (mo, .inr (12, [.int v0, .ref m1, .ref m2, .ref m3, .ref m4, .ref m5, .int v6, .int o_477, .int o_478, .int o_479, .int o_480, .long o_481, .int o_482, .int o_483, .int v14, .int v15, .ref m16, .ref m17, .ref m18, .ref m19, .ref m20, .ref m21, .ref m22, .ref m23, .int v24, .ref m25, .ref m26, .ref m27, .ref m28, .ref m29, .int v30, .ref m31, .ref m32, .ref m33, .int v34, .int v35, .int v36, .ref m37, .ref m38, .ref m39, .ref m40, .long v41])), (m5, .inl (k 1, 1000, .inl f5))] H1 := hP
        have hD : va_D A [(m18, .inl (k 0, 250, .inl f18)), (m19, .inl (k 0, 40, .inl g_472)), (m20, .inl (k 0, 120, .inl f20)), (m21, .inl (k 0, 20, .inl f21)), (m17, .inl (k 0, 30, .inl f17)), (mo, .inr (12, [.int v0, .ref m1, .ref m2, .ref m3, .ref m4, .ref m5, .int v6, .int o_477, .int o_478, .int o_479, .int o_480, .long o_481, .int o_482, .int o_483, .int v14, .int v15, .ref m16, .ref m17, .ref m18, .ref m19, .ref m20, .ref m21, .ref m22, .ref m23, .int v24, .ref m25, .ref m26, .ref m27, .ref m28, .ref m29, .int v30, .ref m31, .ref m32, .ref m33, .int v34, .int v35, .int v36, .ref m37, .ref m38, .ref m39, .ref m40, .long v41])), (m5, .inl (k 1, 1000, .inl f5))] := hD
        generalize H1 = H at hP hS ⊢
        have hw_484 : (0 ≤ o_477.toInt ∧ o_477.toInt ≤ 1000) ∧ (o_461.toInt ≤ o_477.toInt ∧ o_477.toInt ≤ v6.toInt) ∧ (r_476.toInt = 0 ∨ (0 ≤ r_476.toInt ∧ r_476.toInt ≤ 99)) := hw
        obtain ⟨hw_485, hw_486, hw_487⟩ := hw_484
        clear hw
        refine va_iast hx hb hK hP hD hS 1 0 rfl rfl (z_in (by omega) (by omega)) dX12_line_85 (fun H locs hP hD hS => ?_)
        obtain ⟨g_488, eg_488⟩ : ∃ z : Nat → Int32, upd g_472 x_475.toNatClampNeg r_476 = z := ⟨_, rfl⟩
        have hP : va_P D vwCl [(m18, .inl (k 0, 250, .inl f18)), (m19, .inl (k 0, 40, .inl (upd g_472 x_475.toNatClampNeg r_476))), (m20, .inl (k 0, 120, .inl f20)), (m21, .inl (k 0, 20, .inl f21)), (m17, .inl (k 0, 30, .inl f17)), (mo, .inr (12, [.int v0, .ref m1, .ref m2, .ref m3, .ref m4, .ref m5, .int v6, .int o_477, .int o_478, .int o_479, .int o_480, .long o_481, .int o_482, .int o_483, .int v14, .int v15, .ref m16, .ref m17, .ref m18, .ref m19, .ref m20, .ref m21, .ref m22, .ref m23, .int v24, .ref m25, .ref m26, .ref m27, .ref m28, .ref m29, .int v30, .ref m31, .ref m32, .ref m33, .int v34, .int v35, .int v36, .ref m37, .ref m38, .ref m39, .ref m40, .long v41])), (m5, .inl (k 1, 1000, .inl f5))] H := hP
        have hD : va_D A [(m18, .inl (k 0, 250, .inl f18)), (m19, .inl (k 0, 40, .inl (upd g_472 x_475.toNatClampNeg r_476))), (m20, .inl (k 0, 120, .inl f20)), (m21, .inl (k 0, 20, .inl f21)), (m17, .inl (k 0, 30, .inl f17)), (mo, .inr (12, [.int v0, .ref m1, .ref m2, .ref m3, .ref m4, .ref m5, .int v6, .int o_477, .int o_478, .int o_479, .int o_480, .long o_481, .int o_482, .int o_483, .int v14, .int v15, .ref m16, .ref m17, .ref m18, .ref m19, .ref m20, .ref m21, .ref m22, .ref m23, .int v24, .ref m25, .ref m26, .ref m27, .ref m28, .ref m29, .int v30, .ref m31, .ref m32, .ref m33, .int v34, .int v35, .int v36, .ref m37, .ref m38, .ref m39, .ref m40, .long v41])), (m5, .inl (k 1, 1000, .inl f5))] := hD
        rw [eg_488] at hP hD
        have hp_489 : PR 40 2 0 0 7 g_488 := by rw [← eg_488]; exact PR.other hp_473 (z_clm (by omega) (by omega))
        have hp_490 : PR 40 2 1 0 99 g_488 := by rw [← eg_488]; exact PR.put hp_474 ⟨by omega, by omega⟩
        refine lv_aload_n hx hb dX12_line_86 rfl (lv_at hl 1 rfl) ?_
        refine lv_iconst (v := 2) hx hb dX12_line_87 (by decide) ?_
        refine lv_aload_n hx hb dX12_line_88 rfl (lv_at hl 1 rfl) ?_
        refine lv_iconst (v := 2) hx hb dX12_line_89 (by decide) ?_
        obtain ⟨hPc, hDc, hFc⟩ := sub3 hP hD hS hA (ws' := [(mo, .inr (12, [.int v0, .ref m1, .ref m2, .ref m3, .ref m4, .ref m5, .int v6, .int o_477, .int o_478, .int o_479, .int o_480, .long o_481, .int o_482, .int o_483, .int v14, .int v15, .ref m16, .ref m17, .ref m18, .ref m19, .ref m20, .ref m21, .ref m22, .ref m23, .int v24, .ref m25, .ref m26, .ref m27, .ref m28, .ref m29, .int v30, .ref m31, .ref m32, .ref m33, .int v34, .int v35, .int v36, .ref m37, .ref m38, .ref m39, .ref m40, .long v41])), (m17, .inl (k 0, 30, .inl f17))]) [5, 4] (by decide +kernel) rfl
        refine va_calli (va_runV (C := RX12) (As := [.int 2]) (rest := [.int 2, .ref mo]) ⟨hx, hb, hml, hown, hts⟩ (c_X12_hasRead_2 l D k mo v0 m1 m2 m3 m4 m5 v6 o_477 o_478 o_479 o_480 o_481 o_482 o_483 v14 v15 m16 m17 m18 m19 m20 m21 m22 m23 v24 m25 m26 m27 m28 m29 v30 m31 m32 m33 v34 v35 v36 m37 m38 m39 m40 v41 f17 H.size (show 0 ≤ v6.toInt ∧ v6.toInt ≤ 1000 from by omega) (show 0 ≤ v24.toInt ∧ v24.toInt ≤ 1023 from by omega) hp_f17_0 hp_f17_1 hp_f17_2 hp_f17_3 hp_f17_4 hp_f17_5) (cwV 1 hts (gV tw_7_46 tw_7_48 tw_p_50 tw_1_13 tw_7_49) rfl rfl rfl hdV_X12_hasRead ⟨Nat.le_of_ble_eq_true rfl, Nat.le_of_ble_eq_true rfl⟩) (cz_V hK hPc hDc hN (ci := 12) (q0 := 0) rfl rfl [.int 2]) rfl rfl hl.1 rfl (lv_room (Nat.le_of_ble_eq_true rfl)) dX12_line_90 ⟨Nat.le_of_ble_eq_true rfl, Nat.le_of_ble_eq_true rfl⟩) hS (fun q _ h => hFc q h) hFc (fun r_491 uZ tZ H1 locs ht hvm hw hB hz1 hk1 hS => ?_)
        obtain ⟨hP1, hK1, hD1⟩ := hB
        rw [ht] at hP1
        obtain ⟨hP, hD⟩ := va_join (wr := [(m18, .inl (k 0, 250, .inl f18)), (m19, .inl (k 0, 40, .inl g_488)), (m20, .inl (k 0, 120, .inl f20)), (m21, .inl (k 0, 20, .inl f21)), (m5, .inl (k 1, 1000, .inl f5))]) (w1 := [(mo, .inr (12, [.int v0, .ref m1, .ref m2, .ref m3, .ref m4, .ref m5, .int v6, .int o_477, .int o_478, .int o_479, .int o_480, .long o_481, .int o_482, .int o_483, .int v14, .int v15, .ref m16, .ref m17, .ref m18, .ref m19, .ref m20, .ref m21, .ref m22, .ref m23, .int v24, .ref m25, .ref m26, .ref m27, .ref m28, .ref m29, .int v30, .ref m31, .ref m32, .ref m33, .int v34, .int v35, .int v36, .ref m37, .ref m38, .ref m39, .ref m40, .long v41])), (m17, .inl (k 0, 30, .inl f17))]) hP hD [5, 4] [0, 1, 2, 3, 6] rfl rfl (by decide +kernel) (by decide +kernel) hk1 hFc hP1 hD1
        clear hK1 hP1 hD1 hPc hDc hFc
        clear hk1 hz1 ht hvm
        have hP : va_P D vwCl [(m18, .inl (k 0, 250, .inl f18)), (m19, .inl (k 0, 40, .inl g_488)), (m20, .inl (k 0, 120, .inl f20)), (m21, .inl (k 0, 20, .inl f21)), (m5, .inl (k 1, 1000, .inl f5)), (mo, .inr (12, [.int v0, .ref m1, .ref m2, .ref m3, .ref m4, .ref m5, .int v6, .int o_477, .int o_478, .int o_479, .int o_480, .long o_481, .int o_482, .int o_483, .int v14, .int v15, .ref m16, .ref m17, .ref m18, .ref m19, .ref m20, .ref m21, .ref m22, .ref m23, .int v24, .ref m25, .ref m26, .ref m27, .ref m28, .ref m29, .int v30, .ref m31, .ref m32, .ref m33, .int v34, .int v35, .int v36, .ref m37, .ref m38, .ref m39, .ref m40, .long v41])), (m17, .inl (k 0, 30, .inl f17))] H1 := hP
        have hD : va_D A [(m18, .inl (k 0, 250, .inl f18)), (m19, .inl (k 0, 40, .inl g_488)), (m20, .inl (k 0, 120, .inl f20)), (m21, .inl (k 0, 20, .inl f21)), (m5, .inl (k 1, 1000, .inl f5)), (mo, .inr (12, [.int v0, .ref m1, .ref m2, .ref m3, .ref m4, .ref m5, .int v6, .int o_477, .int o_478, .int o_479, .int o_480, .long o_481, .int o_482, .int o_483, .int v14, .int v15, .ref m16, .ref m17, .ref m18, .ref m19, .ref m20, .ref m21, .ref m22, .ref m23, .int v24, .ref m25, .ref m26, .ref m27, .ref m28, .ref m29, .int v30, .ref m31, .ref m32, .ref m33, .int v34, .int v35, .int v36, .ref m37, .ref m38, .ref m39, .ref m40, .long v41])), (m17, .inl (k 0, 30, .inl f17))] := hD
        generalize H1 = H at hP hS ⊢
        have hw_492 : (0 ≤ r_491.toInt ∧ r_491.toInt ≤ 4) ∧ (r_491 = f17 26) := hw
        obtain ⟨hw_493, hw_494⟩ := hw_492
        clear hw
        obtain rfl : r_454 = r_491 := hw_457.trans hw_494.symm
        refine lv_iconst (v := 1) hx hb dX12_line_93 (by decide) ?_
        refine lv_iadd hx hb dX12_line_94 ?_
        refine lv_topi (fun x_495 ex_495 => ?_)
        have zx_495 : x_495.toInt = r_454.toInt + 1 := by rw [ex_495]; exact z_add rfl rfl (by omega) (by omega)
        obtain ⟨hPc, hDc, hFc⟩ := sub3 hP hD hS hA (ws' := [(mo, .inr (12, [.int v0, .ref m1, .ref m2, .ref m3, .ref m4, .ref m5, .int v6, .int o_477, .int o_478, .int o_479, .int o_480, .long o_481, .int o_482, .int o_483, .int v14, .int v15, .ref m16, .ref m17, .ref m18, .ref m19, .ref m20, .ref m21, .ref m22, .ref m23, .int v24, .ref m25, .ref m26, .ref m27, .ref m28, .ref m29, .int v30, .ref m31, .ref m32, .ref m33, .int v34, .int v35, .int v36, .ref m37, .ref m38, .ref m39, .ref m40, .long v41])), (m17, .inl (k 0, 30, .inl f17))]) [5, 6] (by decide +kernel) rfl
        refine va_callv (va_runV (C := RX12) (As := [.int 2, .int x_495]) (rest := []) ⟨hx, hb, hml, hown, hts⟩ (c_X12_tells_3 l D k mo x_495 v0 m1 m2 m3 m4 m5 v6 o_477 o_478 o_479 o_480 o_481 o_482 o_483 v14 v15 m16 m17 m18 m19 m20 m21 m22 m23 v24 m25 m26 m27 m28 m29 v30 m31 m32 m33 v34 v35 v36 m37 m38 m39 m40 v41 f17 H.size (show 0 ≤ x_495.toInt ∧ x_495.toInt ≤ 4 from by omega) (show 0 ≤ v6.toInt ∧ v6.toInt ≤ 1000 from by omega) (show 0 ≤ v24.toInt ∧ v24.toInt ≤ 1023 from by omega) hp_f17_0 hp_f17_1 hp_f17_2 hp_f17_3 hp_f17_4 hp_f17_5) (cwV 2 hts (gV tw_6_226 tw_6_228 tw_p_37 tw_1_13 tw_6_229) rfl rfl rfl hdV_X12_tells ⟨Nat.le_of_ble_eq_true rfl, Nat.le_of_ble_eq_true rfl⟩) (cz_V hK hPc hDc hN (ci := 12) (q0 := 0) rfl rfl [.int 2, .int x_495]) rfl rfl hl.1 rfl (lv_room (Nat.le_of_ble_eq_true rfl)) dX12_line_95 ⟨Nat.le_of_ble_eq_true rfl, Nat.le_of_ble_eq_true rfl⟩) hS (fun q _ h => hFc q h) hFc (fun uZ tZ H1 locs ht hvm hw hB hz1 hk1 hS => ?_)
        obtain ⟨o_497, rfl⟩ : ∃ z, z = uZ := ⟨_, rfl⟩
        obtain ⟨hP1, hK1, hD1⟩ := hB
        rw [ht] at hP1
        obtain ⟨hP, hD⟩ := va_join (wr := [(m18, .inl (k 0, 250, .inl f18)), (m19, .inl (k 0, 40, .inl g_488)), (m20, .inl (k 0, 120, .inl f20)), (m21, .inl (k 0, 20, .inl f21)), (m5, .inl (k 1, 1000, .inl f5))]) (w1 := [(mo, .inr (12, [.int v0, .ref m1, .ref m2, .ref m3, .ref m4, .ref m5, .int v6, .int o_477, .int o_478, .int o_479, .int o_480, .long o_481, .int o_482, .int o_483, .int v14, .int v15, .ref m16, .ref m17, .ref m18, .ref m19, .ref m20, .ref m21, .ref m22, .ref m23, .int v24, .ref m25, .ref m26, .ref m27, .ref m28, .ref m29, .int v30, .ref m31, .ref m32, .ref m33, .int v34, .int v35, .int v36, .ref m37, .ref m38, .ref m39, .ref m40, .long v41])), (m17, .inl (k 0, 30, .inl o_497))]) hP hD [5, 6] [0, 1, 2, 3, 4] rfl rfl (by decide +kernel) (by decide +kernel) hk1 hFc hP1 hD1
        clear hK1 hP1 hD1 hPc hDc hFc
        clear hk1 hz1 ht hvm
        have hP : va_P D vwCl [(m18, .inl (k 0, 250, .inl f18)), (m19, .inl (k 0, 40, .inl g_488)), (m20, .inl (k 0, 120, .inl f20)), (m21, .inl (k 0, 20, .inl f21)), (m5, .inl (k 1, 1000, .inl f5)), (mo, .inr (12, [.int v0, .ref m1, .ref m2, .ref m3, .ref m4, .ref m5, .int v6, .int o_477, .int o_478, .int o_479, .int o_480, .long o_481, .int o_482, .int o_483, .int v14, .int v15, .ref m16, .ref m17, .ref m18, .ref m19, .ref m20, .ref m21, .ref m22, .ref m23, .int v24, .ref m25, .ref m26, .ref m27, .ref m28, .ref m29, .int v30, .ref m31, .ref m32, .ref m33, .int v34, .int v35, .int v36, .ref m37, .ref m38, .ref m39, .ref m40, .long v41])), (m17, .inl (k 0, 30, .inl o_497))] H1 := hP
        have hD : va_D A [(m18, .inl (k 0, 250, .inl f18)), (m19, .inl (k 0, 40, .inl g_488)), (m20, .inl (k 0, 120, .inl f20)), (m21, .inl (k 0, 20, .inl f21)), (m5, .inl (k 1, 1000, .inl f5)), (mo, .inr (12, [.int v0, .ref m1, .ref m2, .ref m3, .ref m4, .ref m5, .int v6, .int o_477, .int o_478, .int o_479, .int o_480, .long o_481, .int o_482, .int o_483, .int v14, .int v15, .ref m16, .ref m17, .ref m18, .ref m19, .ref m20, .ref m21, .ref m22, .ref m23, .int v24, .ref m25, .ref m26, .ref m27, .ref m28, .ref m29, .int v30, .ref m31, .ref m32, .ref m33, .int v34, .int v35, .int v36, .ref m37, .ref m38, .ref m39, .ref m40, .long v41])), (m17, .inl (k 0, 30, .inl o_497))] := hD
        generalize H1 = H at hP hS ⊢
        have hw_498 : (PR 30 6 0 0 8 o_497) ∧ (PR 30 6 1 0 10 o_497) ∧ (PR 30 6 2 0 4 o_497) ∧ (PR 30 6 3 0 6 o_497) ∧ (PR 30 6 4 0 2 o_497) ∧ (PR 30 6 5 0 40 o_497) ∧ (o_497 = upd f17 26 x_495) := hw
        obtain ⟨hw_499, hw_500, hw_501, hw_502, hw_503, hw_504, hw_505⟩ := hw_498
        clear hw
        have tk_506 : TK o_497 f18 := by rw [hw_505]; exact TK.other hTK (by decide)
        refine lv_goto (tgt := 222) hx hb dX12_line_98 (by decide) ?_
        obtain ⟨hP9, hD9⟩ := sub2 hP hD (ws' := [(mo, .inr (12, [.int v0, .ref m1, .ref m2, .ref m3, .ref m4, .ref m5, .int v6, .int o_477, .int o_478, .int o_479, .int o_480, .long o_481, .int o_482, .int o_483, .int v14, .int v15, .ref m16, .ref m17, .ref m18, .ref m19, .ref m20, .ref m21, .ref m22, .ref m23, .int v24, .ref m25, .ref m26, .ref m27, .ref m28, .ref m29, .int v30, .ref m31, .ref m32, .ref m33, .int v34, .int v35, .int v36, .ref m37, .ref m38, .ref m39, .ref m40, .long v41])), (m5, .inl (k 1, 1000, .inl f5)), (m17, .inl (k 0, 30, .inl o_497)), (m18, .inl (k 0, 250, .inl f18)), (m19, .inl (k 0, 40, .inl g_488)), (m20, .inl (k 0, 120, .inl f20)), (m21, .inl (k 0, 20, .inl f21))]) [5, 4, 6, 0, 1, 2, 3] (by decide +kernel) rfl
        exact W.vret hx hb hr (fun tZ ht hW => ⟨⟨(o_477, o_478, o_479, o_480, o_481, o_482, o_483, o_497, f21, f20, g_488, f18), rfl, ⟨(show 0 ≤ o_477.toInt ∧ o_477.toInt ≤ 1000 from by omega), hw_499, hw_500, hw_501, hw_502, hw_503, hw_504, hp_f21_0, hp_f21_1, hp_f20_0, hp_489, hp_490, hp_f18_0, hp_f18_1, hp_f18_2, hp_f18_3, (show v7.toInt ≤ o_477.toInt ∧ o_477.toInt ≤ v6.toInt from by omega), tk_506⟩, by rw [ht]; exact hP9, va_K.moved hW.alike hK, hD9⟩, hS.F ht⟩) hS.2.2 dX12_line_222
  · skip
    have zh_18 : ¬ r_4.toInt = 0 := z_ne h_18
    refine lv_aload_n hx hb dX12_line_17 rfl (lv_at hl 0 rfl) ?_
    obtain ⟨hPc, hDc, hFc⟩ := sub3 hP hD hS hA (ws' := [(mo, .inr (12, [.int v0, .ref m1, .ref m2, .ref m3, .ref m4, .ref m5, .int v6, .int o_5, .int o_6, .int o_7, .int o_8, .long o_9, .int o_10, .int o_11, .int v14, .int v15, .ref m16, .ref m17, .ref m18, .ref m19, .ref m20, .ref m21, .ref m22, .ref m23, .int v24, .ref m25, .ref m26, .ref m27, .ref m28, .ref m29, .int v30, .ref m31, .ref m32, .ref m33, .int v34, .int v35, .int v36, .ref m37, .ref m38, .ref m39, .ref m40, .long v41])), (m5, .inl (k 1, 1000, .inl f5)), (m17, .inl (k 0, 30, .inl f17)), (m18, .inl (k 0, 250, .inl f18))]) [4, 5, 6, 0] (by decide +kernel) rfl
    refine va_callv (va_runV (C := RX12) (As := []) (rest := []) ⟨hx, hb, hml, hown, hts⟩ (c_X12_laneLine l D k mo v0 m1 m2 m3 m4 m5 v6 o_5 o_6 o_7 o_8 o_9 o_10 o_11 v14 v15 m16 m17 m18 m19 m20 m21 m22 m23 v24 m25 m26 m27 m28 m29 v30 m31 m32 m33 v34 v35 v36 m37 m38 m39 m40 v41 f5 f17 f18 H.size (show 0 ≤ v6.toInt ∧ v6.toInt ≤ 1000 from by omega) (show 0 ≤ o_5.toInt ∧ o_5.toInt ≤ 1000 from by omega) (show 0 ≤ v24.toInt ∧ v24.toInt ≤ 1023 from by omega) hp_f17_0 hp_f17_1 hp_f17_2 hp_f17_3 hp_f17_4 hp_f17_5 hp_f18_0 hp_f18_1 hp_f18_2 hp_f18_3 (show o_5.toInt ≤ v6.toInt from by omega) (show (f17 25).toInt ≤ 9 from by omega) hTK) (cwV 0 hts (gV tw_7_50 tw_7_52 tw_p_51 tw_1_13 tw_7_53) rfl rfl rfl hdV_X12_laneLine ⟨Nat.le_of_ble_eq_true rfl, Nat.le_of_ble_eq_true rfl⟩) (cz_V hK hPc hDc hN (ci := 12) (q0 := 0) rfl rfl []) rfl rfl hl.1 rfl (lv_room (Nat.le_of_ble_eq_true rfl)) dX12_line_18 ⟨Nat.le_of_ble_eq_true rfl, Nat.le_of_ble_eq_true rfl⟩) hS (fun q _ h => hFc q h) hFc (fun uZ tZ H1 locs ht hvm hw hB hz1 hk1 hS => ?_)
    obtain ⟨o_508, o_509, o_510, o_511, o_512, o_513, o_514, o_515, o_516⟩ := uZ
    obtain ⟨hP1, hK1, hD1⟩ := hB
    rw [ht] at hP1
    obtain ⟨hP, hD⟩ := va_join (wr := [(m19, .inl (k 0, 40, .inl f19)), (m20, .inl (k 0, 120, .inl f20)), (m21, .inl (k 0, 20, .inl f21))]) (w1 := [(mo, .inr (12, [.int v0, .ref m1, .ref m2, .ref m3, .ref m4, .ref m5, .int v6, .int o_508, .int o_509, .int o_510, .int o_511, .long o_512, .int o_513, .int o_514, .int v14, .int v15, .ref m16, .ref m17, .ref m18, .ref m19, .ref m20, .ref m21, .ref m22, .ref m23, .int v24, .ref m25, .ref m26, .ref m27, .ref m28, .ref m29, .int v30, .ref m31, .ref m32, .ref m33, .int v34, .int v35, .int v36, .ref m37, .ref m38, .ref m39, .ref m40, .long v41])), (m5, .inl (k 1, 1000, .inl f5)), (m17, .inl (k 0, 30, .inl o_515)), (m18, .inl (k 0, 250, .inl o_516))]) hP hD [4, 5, 6, 0] [1, 2, 3] rfl rfl (by decide +kernel) (by decide +kernel) hk1 hFc hP1 hD1
    clear hK1 hP1 hD1 hPc hDc hFc
    clear hk1 hz1 ht hvm
    have hP : va_P D vwCl [(m19, .inl (k 0, 40, .inl f19)), (m20, .inl (k 0, 120, .inl f20)), (m21, .inl (k 0, 20, .inl f21)), (mo, .inr (12, [.int v0, .ref m1, .ref m2, .ref m3, .ref m4, .ref m5, .int v6, .int o_508, .int o_509, .int o_510, .int o_511, .long o_512, .int o_513, .int o_514, .int v14, .int v15, .ref m16, .ref m17, .ref m18, .ref m19, .ref m20, .ref m21, .ref m22, .ref m23, .int v24, .ref m25, .ref m26, .ref m27, .ref m28, .ref m29, .int v30, .ref m31, .ref m32, .ref m33, .int v34, .int v35, .int v36, .ref m37, .ref m38, .ref m39, .ref m40, .long v41])), (m5, .inl (k 1, 1000, .inl f5)), (m17, .inl (k 0, 30, .inl o_515)), (m18, .inl (k 0, 250, .inl o_516))] H1 := hP
    have hD : va_D A [(m19, .inl (k 0, 40, .inl f19)), (m20, .inl (k 0, 120, .inl f20)), (m21, .inl (k 0, 20, .inl f21)), (mo, .inr (12, [.int v0, .ref m1, .ref m2, .ref m3, .ref m4, .ref m5, .int v6, .int o_508, .int o_509, .int o_510, .int o_511, .long o_512, .int o_513, .int o_514, .int v14, .int v15, .ref m16, .ref m17, .ref m18, .ref m19, .ref m20, .ref m21, .ref m22, .ref m23, .int v24, .ref m25, .ref m26, .ref m27, .ref m28, .ref m29, .int v30, .ref m31, .ref m32, .ref m33, .int v34, .int v35, .int v36, .ref m37, .ref m38, .ref m39, .ref m40, .long v41])), (m5, .inl (k 1, 1000, .inl f5)), (m17, .inl (k 0, 30, .inl o_515)), (m18, .inl (k 0, 250, .inl o_516))] := hD
    generalize H1 = H at hP hS ⊢
    have hw_517 : (0 ≤ o_508.toInt ∧ o_508.toInt ≤ 1000) ∧ (PR 30 6 0 0 8 o_515) ∧ (PR 30 6 1 0 10 o_515) ∧ (PR 30 6 2 0 4 o_515) ∧ (PR 30 6 3 0 6 o_515) ∧ (PR 30 6 4 0 2 o_515) ∧ (PR 30 6 5 0 40 o_515) ∧ (PR 250 5 0 0 7 o_516) ∧ (PR 250 5 1 0 7 o_516) ∧ (PR 250 5 2 0 60 o_516) ∧ (PR 250 5 3 0 10 o_516) ∧ (o_5.toInt ≤ o_508.toInt ∧ o_508.toInt ≤ v6.toInt) ∧ (TK o_515 o_516) := hw
    obtain ⟨hw_518, hw_519, hw_520, hw_521, hw_522, hw_523, hw_524, hw_525, hw_526, hw_527, hw_528, hw_529, hw_530⟩ := hw_517
    clear hw
    refine lv_goto (tgt := 222) hx hb dX12_line_21 (by decide) ?_
    obtain ⟨hP9, hD9⟩ := sub2 hP hD (ws' := [(mo, .inr (12, [.int v0, .ref m1, .ref m2, .ref m3, .ref m4, .ref m5, .int v6, .int o_508, .int o_509, .int o_510, .int o_511, .long o_512, .int o_513, .int o_514, .int v14, .int v15, .ref m16, .ref m17, .ref m18, .ref m19, .ref m20, .ref m21, .ref m22, .ref m23, .int v24, .ref m25, .ref m26, .ref m27, .ref m28, .ref m29, .int v30, .ref m31, .ref m32, .ref m33, .int v34, .int v35, .int v36, .ref m37, .ref m38, .ref m39, .ref m40, .long v41])), (m5, .inl (k 1, 1000, .inl f5)), (m17, .inl (k 0, 30, .inl o_515)), (m18, .inl (k 0, 250, .inl o_516)), (m19, .inl (k 0, 40, .inl f19)), (m20, .inl (k 0, 120, .inl f20)), (m21, .inl (k 0, 20, .inl f21))]) [3, 4, 5, 6, 0, 1, 2] (by decide +kernel) rfl
    exact W.vret hx hb hr (fun tZ ht hW => ⟨⟨(o_508, o_509, o_510, o_511, o_512, o_513, o_514, o_515, f21, f20, f19, o_516), rfl, ⟨(show 0 ≤ o_508.toInt ∧ o_508.toInt ≤ 1000 from by omega), hw_519, hw_520, hw_521, hw_522, hw_523, hw_524, hp_f21_0, hp_f21_1, hp_f20_0, hp_f19_0, hp_f19_1, hw_525, hw_526, hw_527, hw_528, (show v7.toInt ≤ o_508.toInt ∧ o_508.toInt ≤ v6.toInt from by omega), hw_530⟩, by rw [ht]; exact hP9, va_K.moved hW.alike hK, hD9⟩, hS.F ht⟩) hS.2.2 dX12_line_222
set_option maxHeartbeats 4000000 in
set_option maxRecDepth 100000 in
theorem c_X12_clears (l : Launch) (D : va_G) (k : Nat → ClassId) (mo : Nat) (v0 : Int32) (m1 : Nat) (m2 : Nat) (m3 : Nat) (m4 : Nat) (m5 : Nat) (v6 : Int32) (v7 : Int32) (v8 : Int32) (v9 : Int32) (v10 : Int32) (v11 : Int64) (v12 : Int32) (v13 : Int32) (v14 : Int32) (v15 : Int32) (m16 : Nat) (m17 : Nat) (m18 : Nat) (m19 : Nat) (m20 : Nat) (m21 : Nat) (m22 : Nat) (m23 : Nat) (v24 : Int32) (m25 : Nat) (m26 : Nat) (m27 : Nat) (m28 : Nat) (m29 : Nat) (v30 : Int32) (m31 : Nat) (m32 : Nat) (m33 : Nat) (v34 : Int32) (v35 : Int32) (v36 : Int32) (m37 : Nat) (m38 : Nat) (m39 : Nat) (m40 : Nat) (v41 : Int64) (f16 : Nat → Int32) (f17 : Nat → Int32) (f18 : Nat → Int32) (sz : Nat) (h_v6 : 0 ≤ v6.toInt ∧ v6.toInt ≤ 1000) (h_v24 : 0 ≤ v24.toInt ∧ v24.toInt ≤ 1023) (hp_f17_0 : PR 30 6 0 0 8 f17) (hp_f17_1 : PR 30 6 1 0 10 f17) (hp_f17_2 : PR 30 6 2 0 4 f17) (hp_f17_3 : PR 30 6 3 0 6 f17) (hp_f17_4 : PR 30 6 4 0 2 f17) (hp_f17_5 : PR 30 6 5 0 40 f17) (hp_f18_0 : PR 250 5 0 0 7 f18) (hp_f18_1 : PR 250 5 1 0 7 f18) (hp_f18_2 : PR 250 5 2 0 60 f18) (hp_f18_3 : PR 250 5 3 0 10 f18) (hTK : TK f17 f18) : Met l yX12_clears (ww yX12_clears cX12_clears 2 none) ({ frames := 1, cells := 0, slots := 0, locals := 22 }) (Pre0 D k [(mo, .inr (12, [.int v0, .ref m1, .ref m2, .ref m3, .ref m4, .ref m5, .int v6, .int v7, .int v8, .int v9, .int v10, .long v11, .int v12, .int v13, .int v14, .int v15, .ref m16, .ref m17, .ref m18, .ref m19, .ref m20, .ref m21, .ref m22, .ref m23, .int v24, .ref m25, .ref m26, .ref m27, .ref m28, .ref m29, .int v30, .ref m31, .ref m32, .ref m33, .int v34, .int v35, .int v36, .ref m37, .ref m38, .ref m39, .ref m40, .long v41])), (m16, .inl (k 0, 5, .inl f16)), (m17, .inl (k 0, 30, .inl f17)), (m18, .inl (k 0, 250, .inl f18))] sz [.ref mo]) (va_Qv (fun (u : (Nat → Int32) × (Nat → Int32)) => match u with | (f16z, f17z) => (PR 30 6 0 0 8 f17z) ∧ (PR 30 6 1 0 10 f17z) ∧ (PR 30 6 2 0 4 f17z) ∧ (PR 30 6 3 0 6 f17z) ∧ (PR 30 6 4 0 2 f17z) ∧ (PR 30 6 5 0 40 f17z) ∧ (TK f17z f18)) (fun (u : (Nat → Int32) × (Nat → Int32)) tZ => match u with | (f16z, f17z) => Bw D k (va_A [(mo, .inr (12, [.int v0, .ref m1, .ref m2, .ref m3, .ref m4, .ref m5, .int v6, .int v7, .int v8, .int v9, .int v10, .long v11, .int v12, .int v13, .int v14, .int v15, .ref m16, .ref m17, .ref m18, .ref m19, .ref m20, .ref m21, .ref m22, .ref m23, .int v24, .ref m25, .ref m26, .ref m27, .ref m28, .ref m29, .int v30, .ref m31, .ref m32, .ref m33, .int v34, .int v35, .int v36, .ref m37, .ref m38, .ref m39, .ref m40, .long v41])), (m16, .inl (k 0, 5, .inl f16)), (m17, .inl (k 0, 30, .inl f17)), (m18, .inl (k 0, 250, .inl f18))] sz) [(mo, .inr (12, [.int v0, .ref m1, .ref m2, .ref m3, .ref m4, .ref m5, .int v6, .int v7, .int v8, .int v9, .int v10, .long v11, .int v12, .int v13, .int v14, .int v15, .ref m16, .ref m17, .ref m18, .ref m19, .ref m20, .ref m21, .ref m22, .ref m23, .int v24, .ref m25, .ref m26, .ref m27, .ref m28, .ref m29, .int v30, .ref m31, .ref m32, .ref m33, .int v34, .int v35, .int v36, .ref m37, .ref m38, .ref m39, .ref m40, .long v41])), (m16, .inl (k 0, 5, .inl f16z)), (m17, .inl (k 0, 30, .inl f17z)), (m18, .inl (k 0, 250, .inl f18))] tZ) (va_A [(mo, .inr (12, [.int v0, .ref m1, .ref m2, .ref m3, .ref m4, .ref m5, .int v6, .int v7, .int v8, .int v9, .int v10, .long v11, .int v12, .int v13, .int v14, .int v15, .ref m16, .ref m17, .ref m18, .ref m19, .ref m20, .ref m21, .ref m22, .ref m23, .int v24, .ref m25, .ref m26, .ref m27, .ref m28, .ref m29, .int v30, .ref m31, .ref m32, .ref m33, .int v34, .int v35, .int v36, .ref m37, .ref m38, .ref m39, .ref m40, .long v41])), (m16, .inl (k 0, 5, .inl f16)), (m17, .inl (k 0, 30, .inl f17)), (m18, .inl (k 0, 250, .inl f18))] sz)) 0 0 (va_A [(mo, .inr (12, [.int v0, .ref m1, .ref m2, .ref m3, .ref m4, .ref m5, .int v6, .int v7, .int v8, .int v9, .int v10, .long v11, .int v12, .int v13, .int v14, .int v15, .ref m16, .ref m17, .ref m18, .ref m19, .ref m20, .ref m21, .ref m22, .ref m23, .int v24, .ref m25, .ref m26, .ref m27, .ref m28, .ref m29, .int v30, .ref m31, .ref m32, .ref m33, .int v34, .int v35, .int v36, .ref m37, .ref m38, .ref m39, .ref m40, .long v41])), (m16, .inl (k 0, 5, .inl f16)), (m17, .inl (k 0, 30, .inl f17)), (m18, .inl (k 0, 250, .inl f18))] sz) := by
  refine Met.ofW (cc := cX12_clears) (maxL := 2) (ret := none) (by decide +kernel) rfl ?_
  intro p e s m args below meth c s₁ B hml hv
  obtain ⟨rfl, hsz, hP, hK, hD0, hN⟩ := hv
  have hx := B.exec
  have hb := B.bytes
  have hr := B.returns
  have hts : ∀ w ∈ TT, w.before _ s = true := fun w h => atoms_spec (ws := ww yX12_clears cX12_clears 2 none) B.pre w (List.mem_cons_of_mem _ h)
  have hown : s.vm.findClass RX12 = some m.cls := findClass_of_methodNamed B.named
  have hlocks := B.notSynchronized
  subst hsz
  have hD := hD0.self (sz := s.heap.size)
  generalize hAe : va_A [(mo, .inr (12, [.int v0, .ref m1, .ref m2, .ref m3, .ref m4, .ref m5, .int v6, .int v7, .int v8, .int v9, .int v10, .long v11, .int v12, .int v13, .int v14, .int v15, .ref m16, .ref m17, .ref m18, .ref m19, .ref m20, .ref m21, .ref m22, .ref m23, .int v24, .ref m25, .ref m26, .ref m27, .ref m28, .ref m29, .int v30, .ref m31, .ref m32, .ref m33, .int v34, .int v35, .int v36, .ref m37, .ref m38, .ref m39, .ref m40, .long v41])), (m16, .inl (k 0, 5, .inl f16)), (m17, .inl (k 0, 30, .inl f17)), (m18, .inl (k 0, 250, .inl f18))] s.heap.size = A at hD ⊢
  have hA : ∀ q : Nat, s.heap.size ≤ q → A q := fun q h => by rw [← hAe]; exact Or.inr h
  have hS : va_S A s.heap s.heap [] := va_S.rf
  have hl := lv_entry ([.ref mo]) (n := 2) (Nat.le_of_ble_eq_true rfl)
  rw [lg_entry_eq]
  generalize (lg_sl ([.ref mo]) ++ List.replicate (2 - (lg_sl ([.ref mo])).length) Slot.unset).toArray = ls at hl ⊢
  have hl : lv_has ls 2 [(0, .ref mo)] := hl
  refine lv_aload_n hx hb dX12_clears_0 rfl (lv_at hl 0 rfl) ?_
  refine va_get (D := D) (ci := 12) (v := .ref m16) (C := RX12) (T := TX12) (N := 42) hx hb hts iT_X12 hown hK hP 0 rfl rfl 16 (by decide) (hts _ tw_6_69) (fun _ h9 => h9) rfl dX12_clears_1 ?_
  refine lv_iconst (v := 4) hx hb dX12_clears_4 (by decide) ?_
  refine lv_iconst (v := 0) hx hb dX12_clears_5 (by decide) ?_
  refine va_iast hx hb hK hP hD hS 1 0 rfl rfl (z_in (by decide) (by decide)) dX12_clears_6 (fun H locs hP hD hS => ?_)
  obtain ⟨g_1, eg_1⟩ : ∃ z : Nat → Int32, upd f16 4 0 = z := ⟨_, rfl⟩
  have hP : va_P D vwCl [(mo, .inr (12, [.int v0, .ref m1, .ref m2, .ref m3, .ref m4, .ref m5, .int v6, .int v7, .int v8, .int v9, .int v10, .long v11, .int v12, .int v13, .int v14, .int v15, .ref m16, .ref m17, .ref m18, .ref m19, .ref m20, .ref m21, .ref m22, .ref m23, .int v24, .ref m25, .ref m26, .ref m27, .ref m28, .ref m29, .int v30, .ref m31, .ref m32, .ref m33, .int v34, .int v35, .int v36, .ref m37, .ref m38, .ref m39, .ref m40, .long v41])), (m16, .inl (k 0, 5, .inl (upd f16 4 0))), (m17, .inl (k 0, 30, .inl f17)), (m18, .inl (k 0, 250, .inl f18))] H := hP
  have hD : va_D A [(mo, .inr (12, [.int v0, .ref m1, .ref m2, .ref m3, .ref m4, .ref m5, .int v6, .int v7, .int v8, .int v9, .int v10, .long v11, .int v12, .int v13, .int v14, .int v15, .ref m16, .ref m17, .ref m18, .ref m19, .ref m20, .ref m21, .ref m22, .ref m23, .int v24, .ref m25, .ref m26, .ref m27, .ref m28, .ref m29, .int v30, .ref m31, .ref m32, .ref m33, .int v34, .int v35, .int v36, .ref m37, .ref m38, .ref m39, .ref m40, .long v41])), (m16, .inl (k 0, 5, .inl (upd f16 4 0))), (m17, .inl (k 0, 30, .inl f17)), (m18, .inl (k 0, 250, .inl f18))] := hD
  rw [eg_1] at hP hD
  refine lv_iconst (v := 0) hx hb dX12_clears_7 (by decide) ?_
  refine lv_istore_n (lv' := [(1, .int 0), (0, .ref mo)]) hx hb dX12_clears_8 rfl hl (by decide) rfl (fun ls hl => ?_)
  refine loop_r (Wg := fun H locs ls => W p l e _ s m _ below meth c H locs _ _ _ (F0 m 9 ls [])) (fun n9 H locs ls => ∃ (L9l1 : Int32) (L9a2 : Nat → Int32), n9 = (6 - L9l1.toInt).toNat ∧ (0 ≤ L9l1.toInt ∧ L9l1.toInt ≤ 6) ∧ (PR 30 6 0 0 8 L9a2) ∧ (PR 30 6 1 0 10 L9a2) ∧ (PR 30 6 2 0 4 L9a2) ∧ (PR 30 6 3 0 6 L9a2) ∧ (PR 30 6 4 0 2 L9a2) ∧ (PR 30 6 5 0 40 L9a2) ∧ (TK L9a2 f18) ∧ va_P D vwCl [(mo, .inr (12, [.int v0, .ref m1, .ref m2, .ref m3, .ref m4, .ref m5, .int v6, .int v7, .int v8, .int v9, .int v10, .long v11, .int v12, .int v13, .int v14, .int v15, .ref m16, .ref m17, .ref m18, .ref m19, .ref m20, .ref m21, .ref m22, .ref m23, .int v24, .ref m25, .ref m26, .ref m27, .ref m28, .ref m29, .int v30, .ref m31, .ref m32, .ref m33, .int v34, .int v35, .int v36, .ref m37, .ref m38, .ref m39, .ref m40, .long v41])), (m16, .inl (k 0, 5, .inl g_1)), (m17, .inl (k 0, 30, .inl L9a2)), (m18, .inl (k 0, 250, .inl f18))] H ∧ va_D A [(mo, .inr (12, [.int v0, .ref m1, .ref m2, .ref m3, .ref m4, .ref m5, .int v6, .int v7, .int v8, .int v9, .int v10, .long v11, .int v12, .int v13, .int v14, .int v15, .ref m16, .ref m17, .ref m18, .ref m19, .ref m20, .ref m21, .ref m22, .ref m23, .int v24, .ref m25, .ref m26, .ref m27, .ref m28, .ref m29, .int v30, .ref m31, .ref m32, .ref m33, .int v34, .int v35, .int v36, .ref m37, .ref m38, .ref m39, .ref m40, .long v41])), (m16, .inl (k 0, 5, .inl g_1)), (m17, .inl (k 0, 30, .inl L9a2)), (m18, .inl (k 0, 250, .inl f18))] ∧ va_S A s.heap H locs ∧ lv_has ls 2 [(0, .ref mo), (1, .int L9l1)]) (fun n9 H locs ls hI ih_2 => ?_) _ _ _ _ ⟨0, f17, rfl, (show 0 ≤ 0 ∧ 0 ≤ 6 from by omega), hp_f17_0, hp_f17_1, hp_f17_2, hp_f17_3, hp_f17_4, hp_f17_5, hTK, hP.sub (ws' := [(mo, .inr (12, [.int v0, .ref m1, .ref m2, .ref m3, .ref m4, .ref m5, .int v6, .int v7, .int v8, .int v9, .int v10, .long v11, .int v12, .int v13, .int v14, .int v15, .ref m16, .ref m17, .ref m18, .ref m19, .ref m20, .ref m21, .ref m22, .ref m23, .int v24, .ref m25, .ref m26, .ref m27, .ref m28, .ref m29, .int v30, .ref m31, .ref m32, .ref m33, .int v34, .int v35, .int v36, .ref m37, .ref m38, .ref m39, .ref m40, .long v41])), (m16, .inl (k 0, 5, .inl g_1)), (m17, .inl (k 0, 30, .inl f17)), (m18, .inl (k 0, 250, .inl f18))]) [0, 1, 2, 3] rfl, hD.sub (ws' := [(mo, .inr (12, [.int v0, .ref m1, .ref m2, .ref m3, .ref m4, .ref m5, .int v6, .int v7, .int v8, .int v9, .int v10, .long v11, .int v12, .int v13, .int v14, .int v15, .ref m16, .ref m17, .ref m18, .ref m19, .ref m20, .ref m21, .ref m22, .ref m23, .int v24, .ref m25, .ref m26, .ref m27, .ref m28, .ref m29, .int v30, .ref m31, .ref m32, .ref m33, .int v34, .int v35, .int v36, .ref m37, .ref m38, .ref m39, .ref m40, .long v41])), (m16, .inl (k 0, 5, .inl g_1)), (m17, .inl (k 0, 30, .inl f17)), (m18, .inl (k 0, 250, .inl f18))]) [0, 1, 2, 3] (by decide +kernel) rfl, hS, lv_sub hl [1, 0] rfl⟩
  clear hP hD hS hl
  obtain ⟨L9l1, L9a2, en_3, zL9l1, L9a2h0, L9a2h1, L9a2h2, L9a2h3, L9a2h4, L9a2h5, hi9x0, hP, hD, hS, hl⟩ := hI
  refine lv_iload_n hx hb dX12_clears_9 rfl (lv_at hl 1 rfl) ?_
  refine lv_bipush (v := 6) hx hb dX12_clears_10 (by decide) ?_
  refine lv_icmp_ge (tgt := 27) hx hb dX12_clears_12 (by decide) (fun h_4 => ?_) (fun h_4 => ?_)
  · skip
    have zh_4 : 6 ≤ L9l1.toInt := z_le h_4
    obtain ⟨hP9, hD9⟩ := sub2 hP hD (ws' := [(mo, .inr (12, [.int v0, .ref m1, .ref m2, .ref m3, .ref m4, .ref m5, .int v6, .int v7, .int v8, .int v9, .int v10, .long v11, .int v12, .int v13, .int v14, .int v15, .ref m16, .ref m17, .ref m18, .ref m19, .ref m20, .ref m21, .ref m22, .ref m23, .int v24, .ref m25, .ref m26, .ref m27, .ref m28, .ref m29, .int v30, .ref m31, .ref m32, .ref m33, .int v34, .int v35, .int v36, .ref m37, .ref m38, .ref m39, .ref m40, .long v41])), (m16, .inl (k 0, 5, .inl g_1)), (m17, .inl (k 0, 30, .inl L9a2)), (m18, .inl (k 0, 250, .inl f18))]) [0, 1, 2, 3] (by decide +kernel) rfl
    exact W.vret hx hb hr (fun tZ ht hW => ⟨⟨(g_1, L9a2), rfl, ⟨L9a2h0, L9a2h1, L9a2h2, L9a2h3, L9a2h4, L9a2h5, hi9x0⟩, by rw [ht]; exact hP9, va_K.moved hW.alike hK, hD9⟩, hS.F ht⟩) hS.2.2 dX12_clears_27
  · skip
    have zh_4 : L9l1.toInt < 6 := z_nle h_4
    refine lv_aload_n hx hb dX12_clears_15 rfl (lv_at hl 0 rfl) ?_
    refine lv_iload_n hx hb dX12_clears_16 rfl (lv_at hl 1 rfl) ?_
    refine lv_iconst (v := 0) hx hb dX12_clears_17 (by decide) ?_
    obtain ⟨hPc, hDc, hFc⟩ := sub3 hP hD hS hA (ws' := [(mo, .inr (12, [.int v0, .ref m1, .ref m2, .ref m3, .ref m4, .ref m5, .int v6, .int v7, .int v8, .int v9, .int v10, .long v11, .int v12, .int v13, .int v14, .int v15, .ref m16, .ref m17, .ref m18, .ref m19, .ref m20, .ref m21, .ref m22, .ref m23, .int v24, .ref m25, .ref m26, .ref m27, .ref m28, .ref m29, .int v30, .ref m31, .ref m32, .ref m33, .int v34, .int v35, .int v36, .ref m37, .ref m38, .ref m39, .ref m40, .long v41])), (m17, .inl (k 0, 30, .inl L9a2))]) [0, 2] (by decide +kernel) rfl
    refine va_callv (va_runV (C := RX12) (As := [.int L9l1, .int 0]) (rest := []) ⟨hx, hb, hml, hown, hts⟩ (c_X12_tells_0 l D k mo L9l1 v0 m1 m2 m3 m4 m5 v6 v7 v8 v9 v10 v11 v12 v13 v14 v15 m16 m17 m18 m19 m20 m21 m22 m23 v24 m25 m26 m27 m28 m29 v30 m31 m32 m33 v34 v35 v36 m37 m38 m39 m40 v41 L9a2 H.size (show 0 ≤ L9l1.toInt ∧ L9l1.toInt ≤ 5 from by omega) (show 0 ≤ v6.toInt ∧ v6.toInt ≤ 1000 from by omega) (show 0 ≤ v24.toInt ∧ v24.toInt ≤ 1023 from by omega) L9a2h0 L9a2h1 L9a2h2 L9a2h3 L9a2h4 L9a2h5) (cwV 2 hts (gV tw_6_226 tw_6_228 tw_p_37 tw_1_13 tw_6_229) rfl rfl rfl hdV_X12_tells ⟨Nat.le_of_ble_eq_true rfl, Nat.le_of_ble_eq_true rfl⟩) (cz_V hK hPc hDc hN (ci := 12) (q0 := 0) rfl rfl [.int L9l1, .int 0]) rfl rfl hl.1 rfl (lv_room (Nat.le_of_ble_eq_true rfl)) dX12_clears_18 ⟨Nat.le_of_ble_eq_true rfl, Nat.le_of_ble_eq_true rfl⟩) hS (fun q _ h => hFc q h) hFc (fun uZ tZ H1 locs ht hvm hw hB hz1 hk1 hS => ?_)
    obtain ⟨o_6, rfl⟩ : ∃ z, z = uZ := ⟨_, rfl⟩
    obtain ⟨hP1, hK1, hD1⟩ := hB
    rw [ht] at hP1
    obtain ⟨hP, hD⟩ := va_join (wr := [(m16, .inl (k 0, 5, .inl g_1)), (m18, .inl (k 0, 250, .inl f18))]) (w1 := [(mo, .inr (12, [.int v0, .ref m1, .ref m2, .ref m3, .ref m4, .ref m5, .int v6, .int v7, .int v8, .int v9, .int v10, .long v11, .int v12, .int v13, .int v14, .int v15, .ref m16, .ref m17, .ref m18, .ref m19, .ref m20, .ref m21, .ref m22, .ref m23, .int v24, .ref m25, .ref m26, .ref m27, .ref m28, .ref m29, .int v30, .ref m31, .ref m32, .ref m33, .int v34, .int v35, .int v36, .ref m37, .ref m38, .ref m39, .ref m40, .long v41])), (m17, .inl (k 0, 30, .inl o_6))]) hP hD [0, 2] [1, 3] rfl rfl (by decide +kernel) (by decide +kernel) hk1 hFc hP1 hD1
    clear hK1 hP1 hD1 hPc hDc hFc
    clear hk1 hz1 ht hvm
    have hP : va_P D vwCl [(m16, .inl (k 0, 5, .inl g_1)), (m18, .inl (k 0, 250, .inl f18)), (mo, .inr (12, [.int v0, .ref m1, .ref m2, .ref m3, .ref m4, .ref m5, .int v6, .int v7, .int v8, .int v9, .int v10, .long v11, .int v12, .int v13, .int v14, .int v15, .ref m16, .ref m17, .ref m18, .ref m19, .ref m20, .ref m21, .ref m22, .ref m23, .int v24, .ref m25, .ref m26, .ref m27, .ref m28, .ref m29, .int v30, .ref m31, .ref m32, .ref m33, .int v34, .int v35, .int v36, .ref m37, .ref m38, .ref m39, .ref m40, .long v41])), (m17, .inl (k 0, 30, .inl o_6))] H1 := hP
    have hD : va_D A [(m16, .inl (k 0, 5, .inl g_1)), (m18, .inl (k 0, 250, .inl f18)), (mo, .inr (12, [.int v0, .ref m1, .ref m2, .ref m3, .ref m4, .ref m5, .int v6, .int v7, .int v8, .int v9, .int v10, .long v11, .int v12, .int v13, .int v14, .int v15, .ref m16, .ref m17, .ref m18, .ref m19, .ref m20, .ref m21, .ref m22, .ref m23, .int v24, .ref m25, .ref m26, .ref m27, .ref m28, .ref m29, .int v30, .ref m31, .ref m32, .ref m33, .int v34, .int v35, .int v36, .ref m37, .ref m38, .ref m39, .ref m40, .long v41])), (m17, .inl (k 0, 30, .inl o_6))] := hD
    generalize H1 = H at hP hS ⊢
    have hw_7 : (PR 30 6 0 0 8 o_6) ∧ (PR 30 6 1 0 10 o_6) ∧ (PR 30 6 2 0 4 o_6) ∧ (PR 30 6 3 0 6 o_6) ∧ (PR 30 6 4 0 2 o_6) ∧ (PR 30 6 5 0 40 o_6) ∧ (o_6 = upd L9a2 (24 + L9l1).toNatClampNeg 0) := hw
    obtain ⟨hw_8, hw_9, hw_10, hw_11, hw_12, hw_13, hw_14⟩ := hw_7
    clear hw
    have tk_15 : TK o_6 f18 := by rw [hw_14]; exact TK.zero hi9x0
    obtain ⟨x_16, ex_16⟩ : ∃ y : Int32, y = L9l1 + 1 := ⟨_, rfl⟩
    have zx_16 : x_16.toInt = L9l1.toInt + 1 := by rw [ex_16]; exact z_add rfl rfl (by omega) (by omega)
    refine lv_iinc (v := x_16) (lv' := [(1, .int x_16), (0, .ref mo)]) hx hb dX12_clears_21 hl (k := 1) rfl (by rw [ex_16]; rfl) (by decide) rfl (fun ls hl => ?_)
    refine lv_goto (tgt := 9) hx hb dX12_clears_24 (by decide) ?_
    exact ih_2 _ _ _ _ (by omega) ⟨x_16, o_6, rfl, (show 0 ≤ x_16.toInt ∧ x_16.toInt ≤ 6 from by omega), hw_8, hw_9, hw_10, hw_11, hw_12, hw_13, tk_15, hP.sub (ws' := [(mo, .inr (12, [.int v0, .ref m1, .ref m2, .ref m3, .ref m4, .ref m5, .int v6, .int v7, .int v8, .int v9, .int v10, .long v11, .int v12, .int v13, .int v14, .int v15, .ref m16, .ref m17, .ref m18, .ref m19, .ref m20, .ref m21, .ref m22, .ref m23, .int v24, .ref m25, .ref m26, .ref m27, .ref m28, .ref m29, .int v30, .ref m31, .ref m32, .ref m33, .int v34, .int v35, .int v36, .ref m37, .ref m38, .ref m39, .ref m40, .long v41])), (m16, .inl (k 0, 5, .inl g_1)), (m17, .inl (k 0, 30, .inl o_6)), (m18, .inl (k 0, 250, .inl f18))]) [2, 0, 3, 1] rfl, hD.sub (ws' := [(mo, .inr (12, [.int v0, .ref m1, .ref m2, .ref m3, .ref m4, .ref m5, .int v6, .int v7, .int v8, .int v9, .int v10, .long v11, .int v12, .int v13, .int v14, .int v15, .ref m16, .ref m17, .ref m18, .ref m19, .ref m20, .ref m21, .ref m22, .ref m23, .int v24, .ref m25, .ref m26, .ref m27, .ref m28, .ref m29, .int v30, .ref m31, .ref m32, .ref m33, .int v34, .int v35, .int v36, .ref m37, .ref m38, .ref m39, .ref m40, .long v41])), (m16, .inl (k 0, 5, .inl g_1)), (m17, .inl (k 0, 30, .inl o_6)), (m18, .inl (k 0, 250, .inl f18))]) [2, 0, 3, 1] (by decide +kernel) rfl, hS, lv_sub hl [1, 0] rfl⟩
set_option maxHeartbeats 4000000 in
set_option maxRecDepth 100000 in
theorem c_X12_copyRow_0 (l : Launch) (D : va_G) (k : Nat → ClassId) (p0 : Nat) (p2 : Int32) (p3 : Int32) (f16 : Nat → Int32) (sz : Nat) (h_p2 : 0 ≤ p2.toInt ∧ p2.toInt ≤ 4) (h_p3 : 0 ≤ p3.toInt ∧ p3.toInt ≤ 4) : Met l yX12_copyRow (ww yX12_copyRow cX12_copyRow 5 none) ({ frames := 0, cells := 0, slots := 0, locals := 0 }) (Pre0 D k [(p0, .inl (k 0, 5, .inl f16))] sz [.ref p0, .int 1, .int p2, .int p3]) (va_Qv (fun (f16z : (Nat → Int32)) => True) (fun (f16z : (Nat → Int32)) tZ => Bw D k (va_A [(p0, .inl (k 0, 5, .inl f16))] sz) [(p0, .inl (k 0, 5, .inl f16z))] tZ) (va_A [(p0, .inl (k 0, 5, .inl f16))] sz)) 0 0 (va_A [(p0, .inl (k 0, 5, .inl f16))] sz) := by
  refine Met.ofW (cc := cX12_copyRow) (maxL := 5) (ret := none) (by decide +kernel) rfl ?_
  intro p e s m args below meth c s₁ B hml hv
  obtain ⟨rfl, hsz, hP, hK, hD0, hN⟩ := hv
  have hx := B.exec
  have hb := B.bytes
  have hr := B.returns
  have hts : ∀ w ∈ TT, w.before _ s = true := fun w h => atoms_spec (ws := ww yX12_copyRow cX12_copyRow 5 none) B.pre w (List.mem_cons_of_mem _ h)
  have hown : s.vm.findClass RX12 = some m.cls := findClass_of_methodNamed B.named
  have hlocks := B.notSynchronized
  subst hsz
  have hD := hD0.self (sz := s.heap.size)
  generalize hAe : va_A [(p0, .inl (k 0, 5, .inl f16))] s.heap.size = A at hD ⊢
  have hA : ∀ q : Nat, s.heap.size ≤ q → A q := fun q h => by rw [← hAe]; exact Or.inr h
  have hS : va_S A s.heap s.heap [] := va_S.rf
  have hl := lv_entry ([.ref p0, .int 1, .int p2, .int p3]) (n := 5) (Nat.le_of_ble_eq_true rfl)
  rw [lg_entry_eq]
  generalize (lg_sl ([.ref p0, .int 1, .int p2, .int p3]) ++ List.replicate (5 - (lg_sl ([.ref p0, .int 1, .int p2, .int p3])).length) Slot.unset).toArray = ls at hl ⊢
  have hl : lv_has ls 5 [(0, .ref p0), (1, .int 1), (2, .int p2), (3, .int p3)] := hl
  refine lv_iconst (v := 0) hx hb dX12_copyRow_0 (by decide) ?_
  refine lv_istore (lv' := [(4, .int 0), (0, .ref p0), (1, .int 1), (2, .int p2), (3, .int p3)]) hx hb dX12_copyRow_1 hl (by decide) rfl (fun ls hl => ?_)
  refine lv_iload hx hb dX12_copyRow_3 (lv_at hl 0 rfl) ?_
  refine lv_iload_n hx hb dX12_copyRow_5 rfl (lv_at hl 2 rfl) ?_
  refine lv_icmp_ge (tgt := 31) hx hb dX12_copyRow_6 (by decide) (fun c9 => absurd c9 (by decide)) (fun _ => ?_)
  refine lv_aload_n hx hb dX12_copyRow_9 rfl (lv_at hl 1 rfl) ?_
  refine lv_iload_n hx hb dX12_copyRow_10 rfl (lv_at hl 2 rfl) ?_
  refine lv_iload_n hx hb dX12_copyRow_11 rfl (lv_at hl 4 rfl) ?_
  refine lv_imul hx hb dX12_copyRow_12 ?_
  refine lv_topi (fun x_1 ex_1 => ?_)
  have zx_1 : x_1.toInt = 1 * p3.toInt := by rw [ex_1]; exact z_mul rfl rfl (by omega) (by omega)
  refine lv_iload hx hb dX12_copyRow_13 (lv_at hl 0 rfl) ?_
  refine lv_iadd hx hb dX12_copyRow_15 ?_
  refine lv_topi (fun x_2 ex_2 => ?_)
  have zx_2 : x_2.toInt = x_1.toInt + 0 := by rw [ex_2]; exact z_add rfl rfl (by omega) (by omega)
  refine lv_aload_n hx hb dX12_copyRow_16 rfl (lv_at hl 1 rfl) ?_
  refine lv_iload_n hx hb dX12_copyRow_17 rfl (lv_at hl 2 rfl) ?_
  refine lv_iload_n hx hb dX12_copyRow_18 rfl (lv_at hl 3 rfl) ?_
  refine lv_imul hx hb dX12_copyRow_19 ?_
  refine lv_topi (fun x_3 ex_3 => ?_)
  have zx_3 : x_3.toInt = 1 * p2.toInt := by rw [ex_3]; exact z_mul rfl rfl (by omega) (by omega)
  refine lv_iload hx hb dX12_copyRow_20 (lv_at hl 0 rfl) ?_
  refine lv_iadd hx hb dX12_copyRow_22 ?_
  refine lv_topi (fun x_4 ex_4 => ?_)
  have zx_4 : x_4.toInt = x_3.toInt + 0 := by rw [ex_4]; exact z_add rfl rfl (by omega) (by omega)
  refine va_iald hx hb hK hP 0 0 rfl rfl (z_in (by omega) (by omega)) dX12_copyRow_23 ?_
  refine lv_topi (fun x_5 ex_5 => ?_)
  refine va_iast hx hb hK hP hD hS 0 0 rfl rfl (z_in (by omega) (by omega)) dX12_copyRow_24 (fun H locs hP hD hS => ?_)
  obtain ⟨g_6, eg_6⟩ : ∃ z : Nat → Int32, upd f16 x_2.toNatClampNeg x_5 = z := ⟨_, rfl⟩
  have hP : va_P D vwCl [(p0, .inl (k 0, 5, .inl (upd f16 x_2.toNatClampNeg x_5)))] H := hP
  have hD : va_D A [(p0, .inl (k 0, 5, .inl (upd f16 x_2.toNatClampNeg x_5)))] := hD
  rw [eg_6] at hP hD
  refine lv_iinc (v := 1) (lv' := [(4, .int 1), (0, .ref p0), (1, .int 1), (2, .int p2), (3, .int p3)]) hx hb dX12_copyRow_25 hl (k := 0) rfl (by decide) (by decide) rfl (fun ls hl => ?_)
  refine lv_goto (tgt := 3) hx hb dX12_copyRow_28 (by decide) ?_
  refine lv_iload hx hb dX12_copyRow_3 (lv_at hl 0 rfl) ?_
  refine lv_iload_n hx hb dX12_copyRow_5 rfl (lv_at hl 2 rfl) ?_
  refine lv_icmp_ge (tgt := 31) hx hb dX12_copyRow_6 (by decide) (fun _ => ?_) (fun c9 => absurd c9 (by decide))
  obtain ⟨hP9, hD9⟩ := sub2 hP hD (ws' := [(p0, .inl (k 0, 5, .inl g_6))]) [0] (by decide +kernel) rfl
  exact W.vret hx hb hr (fun tZ ht hW => ⟨⟨g_6, rfl, trivial, by rw [ht]; exact hP9, va_K.moved hW.alike hK, hD9⟩, hS.F ht⟩) hS.2.2 dX12_copyRow_31
set_option maxHeartbeats 4000000 in
set_option maxRecDepth 100000 in
theorem c_X12_copyRow_1 (l : Launch) (D : va_G) (k : Nat → ClassId) (p0 : Nat) (p2 : Int32) (p3 : Int32) (f17 : Nat → Int32) (sz : Nat) (h_p2 : 0 ≤ p2.toInt ∧ p2.toInt ≤ 4) (h_p3 : 0 ≤ p3.toInt ∧ p3.toInt ≤ 4) (hp_f17_0 : PR 30 6 0 0 8 f17) (hp_f17_1 : PR 30 6 1 0 10 f17) (hp_f17_2 : PR 30 6 2 0 4 f17) (hp_f17_3 : PR 30 6 3 0 6 f17) (hp_f17_4 : PR 30 6 4 0 2 f17) (hp_f17_5 : PR 30 6 5 0 40 f17) (hne : ¬ p2.toInt = p3.toInt) : Met l yX12_copyRow (ww yX12_copyRow cX12_copyRow 5 none) ({ frames := 0, cells := 0, slots := 0, locals := 0 }) (Pre0 D k [(p0, .inl (k 0, 30, .inl f17))] sz [.ref p0, .int 6, .int p2, .int p3]) (va_Qv (fun (f17z : (Nat → Int32)) => (PR 30 6 0 0 8 f17z) ∧ (PR 30 6 1 0 10 f17z) ∧ (PR 30 6 2 0 4 f17z) ∧ (PR 30 6 3 0 6 f17z) ∧ (PR 30 6 4 0 2 f17z) ∧ (PR 30 6 5 0 40 f17z) ∧ (CP 6 p2.toInt p3.toInt 6 f17 f17z)) (fun (f17z : (Nat → Int32)) tZ => Bw D k (va_A [(p0, .inl (k 0, 30, .inl f17))] sz) [(p0, .inl (k 0, 30, .inl f17z))] tZ) (va_A [(p0, .inl (k 0, 30, .inl f17))] sz)) 0 0 (va_A [(p0, .inl (k 0, 30, .inl f17))] sz) := by
  refine Met.ofW (cc := cX12_copyRow) (maxL := 5) (ret := none) (by decide +kernel) rfl ?_
  intro p e s m args below meth c s₁ B hml hv
  obtain ⟨rfl, hsz, hP, hK, hD0, hN⟩ := hv
  have hx := B.exec
  have hb := B.bytes
  have hr := B.returns
  have hts : ∀ w ∈ TT, w.before _ s = true := fun w h => atoms_spec (ws := ww yX12_copyRow cX12_copyRow 5 none) B.pre w (List.mem_cons_of_mem _ h)
  have hown : s.vm.findClass RX12 = some m.cls := findClass_of_methodNamed B.named
  have hlocks := B.notSynchronized
  subst hsz
  have hD := hD0.self (sz := s.heap.size)
  generalize hAe : va_A [(p0, .inl (k 0, 30, .inl f17))] s.heap.size = A at hD ⊢
  have hA : ∀ q : Nat, s.heap.size ≤ q → A q := fun q h => by rw [← hAe]; exact Or.inr h
  have hS : va_S A s.heap s.heap [] := va_S.rf
  have hl := lv_entry ([.ref p0, .int 6, .int p2, .int p3]) (n := 5) (Nat.le_of_ble_eq_true rfl)
  rw [lg_entry_eq]
  generalize (lg_sl ([.ref p0, .int 6, .int p2, .int p3]) ++ List.replicate (5 - (lg_sl ([.ref p0, .int 6, .int p2, .int p3])).length) Slot.unset).toArray = ls at hl ⊢
  have hl : lv_has ls 5 [(0, .ref p0), (1, .int 6), (2, .int p2), (3, .int p3)] := hl
  refine lv_iconst (v := 0) hx hb dX12_copyRow_0 (by decide) ?_
  refine lv_istore (lv' := [(4, .int 0), (0, .ref p0), (1, .int 6), (2, .int p2), (3, .int p3)]) hx hb dX12_copyRow_1 hl (by decide) rfl (fun ls hl => ?_)
  refine loop_r (Wg := fun H locs ls => W p l e _ s m _ below meth c H locs _ _ _ (F0 m 3 ls [])) (fun n9 H locs ls => ∃ (L3l4 : Int32) (L3a0 : Nat → Int32), n9 = (6 - L3l4.toInt).toNat ∧ (0 ≤ L3l4.toInt ∧ L3l4.toInt ≤ 6) ∧ (PR 30 6 0 0 8 L3a0) ∧ (PR 30 6 1 0 10 L3a0) ∧ (PR 30 6 2 0 4 L3a0) ∧ (PR 30 6 3 0 6 L3a0) ∧ (PR 30 6 4 0 2 L3a0) ∧ (PR 30 6 5 0 40 L3a0) ∧ (CP 6 p2.toInt p3.toInt L3l4.toInt f17 L3a0) ∧ va_P D vwCl [(p0, .inl (k 0, 30, .inl L3a0))] H ∧ va_D A [(p0, .inl (k 0, 30, .inl L3a0))] ∧ va_S A s.heap H locs ∧ lv_has ls 5 [(0, .ref p0), (1, .int 6), (2, .int p2), (3, .int p3), (4, .int L3l4)]) (fun n9 H locs ls hI ih_1 => ?_) _ _ _ _ ⟨0, f17, rfl, (show 0 ≤ 0 ∧ 0 ≤ 6 from by omega), hp_f17_0, hp_f17_1, hp_f17_2, hp_f17_3, hp_f17_4, hp_f17_5, (CP.zero _ _ _ _ rfl), hP.sub (ws' := [(p0, .inl (k 0, 30, .inl f17))]) [0] rfl, hD.sub (ws' := [(p0, .inl (k 0, 30, .inl f17))]) [0] (by decide +kernel) rfl, hS, lv_sub hl [1, 2, 3, 4, 0] rfl⟩
  clear hP hD hS hl
  obtain ⟨L3l4, L3a0, en_2, zL3l4, L3a0h0, L3a0h1, L3a0h2, L3a0h3, L3a0h4, L3a0h5, hi3x0, hP, hD, hS, hl⟩ := hI
  refine lv_iload hx hb dX12_copyRow_3 (lv_at hl 4 rfl) ?_
  refine lv_iload_n hx hb dX12_copyRow_5 rfl (lv_at hl 1 rfl) ?_
  refine lv_icmp_ge (tgt := 31) hx hb dX12_copyRow_6 (by decide) (fun h_3 => ?_) (fun h_3 => ?_)
  · skip
    have zh_3 : 6 ≤ L3l4.toInt := z_le h_3
    obtain ⟨hP9, hD9⟩ := sub2 hP hD (ws' := [(p0, .inl (k 0, 30, .inl L3a0))]) [0] (by decide +kernel) rfl
    exact W.vret hx hb hr (fun tZ ht hW => ⟨⟨L3a0, rfl, ⟨L3a0h0, L3a0h1, L3a0h2, L3a0h3, L3a0h4, L3a0h5, (CP.done hi3x0 (by omega))⟩, by rw [ht]; exact hP9, va_K.moved hW.alike hK, hD9⟩, hS.F ht⟩) hS.2.2 dX12_copyRow_31
  · skip
    have zh_3 : L3l4.toInt < 6 := z_nle h_3
    refine lv_aload_n hx hb dX12_copyRow_9 rfl (lv_at hl 0 rfl) ?_
    refine lv_iload_n hx hb dX12_copyRow_10 rfl (lv_at hl 1 rfl) ?_
    refine lv_iload_n hx hb dX12_copyRow_11 rfl (lv_at hl 3 rfl) ?_
    refine lv_imul hx hb dX12_copyRow_12 ?_
    refine lv_topi (fun x_4 ex_4 => ?_)
    have zx_4 : x_4.toInt = 6 * p3.toInt := by rw [ex_4]; exact z_mul rfl rfl (by omega) (by omega)
    refine lv_iload hx hb dX12_copyRow_13 (lv_at hl 4 rfl) ?_
    refine lv_iadd hx hb dX12_copyRow_15 ?_
    refine lv_topi (fun x_5 ex_5 => ?_)
    have zx_5 : x_5.toInt = x_4.toInt + L3l4.toInt := by rw [ex_5]; exact z_add rfl rfl (by omega) (by omega)
    refine lv_aload_n hx hb dX12_copyRow_16 rfl (lv_at hl 0 rfl) ?_
    refine lv_iload_n hx hb dX12_copyRow_17 rfl (lv_at hl 1 rfl) ?_
    refine lv_iload_n hx hb dX12_copyRow_18 rfl (lv_at hl 2 rfl) ?_
    refine lv_imul hx hb dX12_copyRow_19 ?_
    refine lv_topi (fun x_6 ex_6 => ?_)
    have zx_6 : x_6.toInt = 6 * p2.toInt := by rw [ex_6]; exact z_mul rfl rfl (by omega) (by omega)
    refine lv_iload hx hb dX12_copyRow_20 (lv_at hl 4 rfl) ?_
    refine lv_iadd hx hb dX12_copyRow_22 ?_
    refine lv_topi (fun x_7 ex_7 => ?_)
    have zx_7 : x_7.toInt = x_6.toInt + L3l4.toInt := by rw [ex_7]; exact z_add rfl rfl (by omega) (by omega)
    refine va_iald hx hb hK hP 0 0 rfl rfl (z_in (by omega) (by omega)) dX12_copyRow_23 ?_
    refine lv_topi (fun x_8 ex_8 => ?_)
    refine va_iast hx hb hK hP hD hS 0 0 rfl rfl (z_in (by omega) (by omega)) dX12_copyRow_24 (fun H locs hP hD hS => ?_)
    obtain ⟨g_9, eg_9⟩ : ∃ z : Nat → Int32, upd L3a0 x_5.toNatClampNeg x_8 = z := ⟨_, rfl⟩
    have hP : va_P D vwCl [(p0, .inl (k 0, 30, .inl (upd L3a0 x_5.toNatClampNeg x_8)))] H := hP
    have hD : va_D A [(p0, .inl (k 0, 30, .inl (upd L3a0 x_5.toNatClampNeg x_8)))] := hD
    rw [eg_9] at hP hD
    have hp_10 : PR 30 6 0 0 8 g_9 := by rw [← eg_9]; exact PR.cp L3a0h0 (i := x_7) (j := x_5) ex_8 (by omega) (by omega) (by omega) (by omega)
    have hp_11 : PR 30 6 1 0 10 g_9 := by rw [← eg_9]; exact PR.cp L3a0h1 (i := x_7) (j := x_5) ex_8 (by omega) (by omega) (by omega) (by omega)
    have hp_12 : PR 30 6 2 0 4 g_9 := by rw [← eg_9]; exact PR.cp L3a0h2 (i := x_7) (j := x_5) ex_8 (by omega) (by omega) (by omega) (by omega)
    have hp_13 : PR 30 6 3 0 6 g_9 := by rw [← eg_9]; exact PR.cp L3a0h3 (i := x_7) (j := x_5) ex_8 (by omega) (by omega) (by omega) (by omega)
    have hp_14 : PR 30 6 4 0 2 g_9 := by rw [← eg_9]; exact PR.cp L3a0h4 (i := x_7) (j := x_5) ex_8 (by omega) (by omega) (by omega) (by omega)
    have hp_15 : PR 30 6 5 0 40 g_9 := by rw [← eg_9]; exact PR.cp L3a0h5 (i := x_7) (j := x_5) ex_8 (by omega) (by omega) (by omega) (by omega)
    obtain ⟨x_16, ex_16⟩ : ∃ y : Int32, y = L3l4 + 1 := ⟨_, rfl⟩
    have zx_16 : x_16.toInt = L3l4.toInt + 1 := by rw [ex_16]; exact z_add rfl rfl (by omega) (by omega)
    refine lv_iinc (v := x_16) (lv' := [(4, .int x_16), (0, .ref p0), (1, .int 6), (2, .int p2), (3, .int p3)]) hx hb dX12_copyRow_25 hl (k := 4) rfl (by rw [ex_16]; rfl) (by decide) rfl (fun ls hl => ?_)
    refine lv_goto (tgt := 3) hx hb dX12_copyRow_28 (by decide) ?_
    exact ih_1 _ _ _ _ (by omega) ⟨x_16, g_9, rfl, (show 0 ≤ x_16.toInt ∧ x_16.toInt ≤ 6 from by omega), hp_10, hp_11, hp_12, hp_13, hp_14, hp_15, (show CP 6 p2.toInt p3.toInt x_16.toInt f17 g_9 from by rw [← eg_9, ex_8]; exact CP.step6 hi3x0 (by omega) (by omega) (by omega) (by omega) (by omega) (by omega) (by omega) (by omega)), hP.sub (ws' := [(p0, .inl (k 0, 30, .inl g_9))]) [0] rfl, hD.sub (ws' := [(p0, .inl (k 0, 30, .inl g_9))]) [0] (by decide +kernel) rfl, hS, lv_sub hl [1, 2, 3, 4, 0] rfl⟩
set_option maxHeartbeats 4000000 in
set_option maxRecDepth 100000 in
theorem c_X12_copyRow_2 (l : Launch) (D : va_G) (k : Nat → ClassId) (p0 : Nat) (p2 : Int32) (p3 : Int32) (f18 : Nat → Int32) (sz : Nat) (h_p2 : 0 ≤ p2.toInt ∧ p2.toInt ≤ 4) (h_p3 : 0 ≤ p3.toInt ∧ p3.toInt ≤ 4) (hp_f18_0 : PR 250 5 0 0 7 f18) (hp_f18_1 : PR 250 5 1 0 7 f18) (hp_f18_2 : PR 250 5 2 0 60 f18) (hp_f18_3 : PR 250 5 3 0 10 f18) (hne : ¬ p2.toInt = p3.toInt) : Met l yX12_copyRow (ww yX12_copyRow cX12_copyRow 5 none) ({ frames := 0, cells := 0, slots := 0, locals := 0 }) (Pre0 D k [(p0, .inl (k 0, 250, .inl f18))] sz [.ref p0, .int 50, .int p2, .int p3]) (va_Qv (fun (f18z : (Nat → Int32)) => (PR 250 5 0 0 7 f18z) ∧ (PR 250 5 1 0 7 f18z) ∧ (PR 250 5 2 0 60 f18z) ∧ (PR 250 5 3 0 10 f18z) ∧ (CP 50 p2.toInt p3.toInt 50 f18 f18z)) (fun (f18z : (Nat → Int32)) tZ => Bw D k (va_A [(p0, .inl (k 0, 250, .inl f18))] sz) [(p0, .inl (k 0, 250, .inl f18z))] tZ) (va_A [(p0, .inl (k 0, 250, .inl f18))] sz)) 0 0 (va_A [(p0, .inl (k 0, 250, .inl f18))] sz) := by
  refine Met.ofW (cc := cX12_copyRow) (maxL := 5) (ret := none) (by decide +kernel) rfl ?_
  intro p e s m args below meth c s₁ B hml hv
  obtain ⟨rfl, hsz, hP, hK, hD0, hN⟩ := hv
  have hx := B.exec
  have hb := B.bytes
  have hr := B.returns
  have hts : ∀ w ∈ TT, w.before _ s = true := fun w h => atoms_spec (ws := ww yX12_copyRow cX12_copyRow 5 none) B.pre w (List.mem_cons_of_mem _ h)
  have hown : s.vm.findClass RX12 = some m.cls := findClass_of_methodNamed B.named
  have hlocks := B.notSynchronized
  subst hsz
  have hD := hD0.self (sz := s.heap.size)
  generalize hAe : va_A [(p0, .inl (k 0, 250, .inl f18))] s.heap.size = A at hD ⊢
  have hA : ∀ q : Nat, s.heap.size ≤ q → A q := fun q h => by rw [← hAe]; exact Or.inr h
  have hS : va_S A s.heap s.heap [] := va_S.rf
  have hl := lv_entry ([.ref p0, .int 50, .int p2, .int p3]) (n := 5) (Nat.le_of_ble_eq_true rfl)
  rw [lg_entry_eq]
  generalize (lg_sl ([.ref p0, .int 50, .int p2, .int p3]) ++ List.replicate (5 - (lg_sl ([.ref p0, .int 50, .int p2, .int p3])).length) Slot.unset).toArray = ls at hl ⊢
  have hl : lv_has ls 5 [(0, .ref p0), (1, .int 50), (2, .int p2), (3, .int p3)] := hl
  refine lv_iconst (v := 0) hx hb dX12_copyRow_0 (by decide) ?_
  refine lv_istore (lv' := [(4, .int 0), (0, .ref p0), (1, .int 50), (2, .int p2), (3, .int p3)]) hx hb dX12_copyRow_1 hl (by decide) rfl (fun ls hl => ?_)
  refine loop_r (Wg := fun H locs ls => W p l e _ s m _ below meth c H locs _ _ _ (F0 m 3 ls [])) (fun n9 H locs ls => ∃ (L3l4 : Int32) (L3a0 : Nat → Int32), n9 = (50 - L3l4.toInt).toNat ∧ (0 ≤ L3l4.toInt ∧ L3l4.toInt ≤ 50) ∧ (PR 250 5 0 0 7 L3a0) ∧ (PR 250 5 1 0 7 L3a0) ∧ (PR 250 5 2 0 60 L3a0) ∧ (PR 250 5 3 0 10 L3a0) ∧ (CP 50 p2.toInt p3.toInt L3l4.toInt f18 L3a0) ∧ va_P D vwCl [(p0, .inl (k 0, 250, .inl L3a0))] H ∧ va_D A [(p0, .inl (k 0, 250, .inl L3a0))] ∧ va_S A s.heap H locs ∧ lv_has ls 5 [(0, .ref p0), (1, .int 50), (2, .int p2), (3, .int p3), (4, .int L3l4)]) (fun n9 H locs ls hI ih_1 => ?_) _ _ _ _ ⟨0, f18, rfl, (show 0 ≤ 0 ∧ 0 ≤ 50 from by omega), hp_f18_0, hp_f18_1, hp_f18_2, hp_f18_3, (CP.zero _ _ _ _ rfl), hP.sub (ws' := [(p0, .inl (k 0, 250, .inl f18))]) [0] rfl, hD.sub (ws' := [(p0, .inl (k 0, 250, .inl f18))]) [0] (by decide +kernel) rfl, hS, lv_sub hl [1, 2, 3, 4, 0] rfl⟩
  clear hP hD hS hl
  obtain ⟨L3l4, L3a0, en_2, zL3l4, L3a0h0, L3a0h1, L3a0h2, L3a0h3, hi3x0, hP, hD, hS, hl⟩ := hI
  refine lv_iload hx hb dX12_copyRow_3 (lv_at hl 4 rfl) ?_
  refine lv_iload_n hx hb dX12_copyRow_5 rfl (lv_at hl 1 rfl) ?_
  refine lv_icmp_ge (tgt := 31) hx hb dX12_copyRow_6 (by decide) (fun h_3 => ?_) (fun h_3 => ?_)
  · skip
    have zh_3 : 50 ≤ L3l4.toInt := z_le h_3
    obtain ⟨hP9, hD9⟩ := sub2 hP hD (ws' := [(p0, .inl (k 0, 250, .inl L3a0))]) [0] (by decide +kernel) rfl
    exact W.vret hx hb hr (fun tZ ht hW => ⟨⟨L3a0, rfl, ⟨L3a0h0, L3a0h1, L3a0h2, L3a0h3, (CP.done hi3x0 (by omega))⟩, by rw [ht]; exact hP9, va_K.moved hW.alike hK, hD9⟩, hS.F ht⟩) hS.2.2 dX12_copyRow_31
  · skip
    have zh_3 : L3l4.toInt < 50 := z_nle h_3
    refine lv_aload_n hx hb dX12_copyRow_9 rfl (lv_at hl 0 rfl) ?_
    refine lv_iload_n hx hb dX12_copyRow_10 rfl (lv_at hl 1 rfl) ?_
    refine lv_iload_n hx hb dX12_copyRow_11 rfl (lv_at hl 3 rfl) ?_
    refine lv_imul hx hb dX12_copyRow_12 ?_
    refine lv_topi (fun x_4 ex_4 => ?_)
    have zx_4 : x_4.toInt = 50 * p3.toInt := by rw [ex_4]; exact z_mul rfl rfl (by omega) (by omega)
    refine lv_iload hx hb dX12_copyRow_13 (lv_at hl 4 rfl) ?_
    refine lv_iadd hx hb dX12_copyRow_15 ?_
    refine lv_topi (fun x_5 ex_5 => ?_)
    have zx_5 : x_5.toInt = x_4.toInt + L3l4.toInt := by rw [ex_5]; exact z_add rfl rfl (by omega) (by omega)
    refine lv_aload_n hx hb dX12_copyRow_16 rfl (lv_at hl 0 rfl) ?_
    refine lv_iload_n hx hb dX12_copyRow_17 rfl (lv_at hl 1 rfl) ?_
    refine lv_iload_n hx hb dX12_copyRow_18 rfl (lv_at hl 2 rfl) ?_
    refine lv_imul hx hb dX12_copyRow_19 ?_
    refine lv_topi (fun x_6 ex_6 => ?_)
    have zx_6 : x_6.toInt = 50 * p2.toInt := by rw [ex_6]; exact z_mul rfl rfl (by omega) (by omega)
    refine lv_iload hx hb dX12_copyRow_20 (lv_at hl 4 rfl) ?_
    refine lv_iadd hx hb dX12_copyRow_22 ?_
    refine lv_topi (fun x_7 ex_7 => ?_)
    have zx_7 : x_7.toInt = x_6.toInt + L3l4.toInt := by rw [ex_7]; exact z_add rfl rfl (by omega) (by omega)
    refine va_iald hx hb hK hP 0 0 rfl rfl (z_in (by omega) (by omega)) dX12_copyRow_23 ?_
    refine lv_topi (fun x_8 ex_8 => ?_)
    refine va_iast hx hb hK hP hD hS 0 0 rfl rfl (z_in (by omega) (by omega)) dX12_copyRow_24 (fun H locs hP hD hS => ?_)
    obtain ⟨g_9, eg_9⟩ : ∃ z : Nat → Int32, upd L3a0 x_5.toNatClampNeg x_8 = z := ⟨_, rfl⟩
    have hP : va_P D vwCl [(p0, .inl (k 0, 250, .inl (upd L3a0 x_5.toNatClampNeg x_8)))] H := hP
    have hD : va_D A [(p0, .inl (k 0, 250, .inl (upd L3a0 x_5.toNatClampNeg x_8)))] := hD
    rw [eg_9] at hP hD
    have hp_10 : PR 250 5 0 0 7 g_9 := by rw [← eg_9]; exact PR.cp L3a0h0 (i := x_7) (j := x_5) ex_8 (by omega) (by omega) (by omega) (by omega)
    have hp_11 : PR 250 5 1 0 7 g_9 := by rw [← eg_9]; exact PR.cp L3a0h1 (i := x_7) (j := x_5) ex_8 (by omega) (by omega) (by omega) (by omega)
    have hp_12 : PR 250 5 2 0 60 g_9 := by rw [← eg_9]; exact PR.cp L3a0h2 (i := x_7) (j := x_5) ex_8 (by omega) (by omega) (by omega) (by omega)
    have hp_13 : PR 250 5 3 0 10 g_9 := by rw [← eg_9]; exact PR.cp L3a0h3 (i := x_7) (j := x_5) ex_8 (by omega) (by omega) (by omega) (by omega)
    obtain ⟨x_14, ex_14⟩ : ∃ y : Int32, y = L3l4 + 1 := ⟨_, rfl⟩
    have zx_14 : x_14.toInt = L3l4.toInt + 1 := by rw [ex_14]; exact z_add rfl rfl (by omega) (by omega)
    refine lv_iinc (v := x_14) (lv' := [(4, .int x_14), (0, .ref p0), (1, .int 50), (2, .int p2), (3, .int p3)]) hx hb dX12_copyRow_25 hl (k := 4) rfl (by rw [ex_14]; rfl) (by decide) rfl (fun ls hl => ?_)
    refine lv_goto (tgt := 3) hx hb dX12_copyRow_28 (by decide) ?_
    exact ih_1 _ _ _ _ (by omega) ⟨x_14, g_9, rfl, (show 0 ≤ x_14.toInt ∧ x_14.toInt ≤ 50 from by omega), hp_10, hp_11, hp_12, hp_13, (show CP 50 p2.toInt p3.toInt x_14.toInt f18 g_9 from by rw [← eg_9, ex_8]; exact CP.step50 hi3x0 (by omega) (by omega) (by omega) (by omega) (by omega) (by omega) (by omega) (by omega)), hP.sub (ws' := [(p0, .inl (k 0, 250, .inl g_9))]) [0] rfl, hD.sub (ws' := [(p0, .inl (k 0, 250, .inl g_9))]) [0] (by decide +kernel) rfl, hS, lv_sub hl [1, 2, 3, 4, 0] rfl⟩
set_option maxHeartbeats 4000000 in
set_option maxRecDepth 100000 in
theorem c_X12_copyRow_3 (l : Launch) (D : va_G) (k : Nat → ClassId) (p0 : Nat) (p2 : Int32) (p3 : Int32) (f19 : Nat → Int32) (sz : Nat) (h_p2 : 0 ≤ p2.toInt ∧ p2.toInt ≤ 4) (h_p3 : 0 ≤ p3.toInt ∧ p3.toInt ≤ 4) (hp_f19_0 : PR 40 2 0 0 7 f19) (hp_f19_1 : PR 40 2 1 0 99 f19) : Met l yX12_copyRow (ww yX12_copyRow cX12_copyRow 5 none) ({ frames := 0, cells := 0, slots := 0, locals := 0 }) (Pre0 D k [(p0, .inl (k 0, 40, .inl f19))] sz [.ref p0, .int 8, .int p2, .int p3]) (va_Qv (fun (f19z : (Nat → Int32)) => (PR 40 2 0 0 7 f19z) ∧ (PR 40 2 1 0 99 f19z)) (fun (f19z : (Nat → Int32)) tZ => Bw D k (va_A [(p0, .inl (k 0, 40, .inl f19))] sz) [(p0, .inl (k 0, 40, .inl f19z))] tZ) (va_A [(p0, .inl (k 0, 40, .inl f19))] sz)) 0 0 (va_A [(p0, .inl (k 0, 40, .inl f19))] sz) := by
  refine Met.ofW (cc := cX12_copyRow) (maxL := 5) (ret := none) (by decide +kernel) rfl ?_
  intro p e s m args below meth c s₁ B hml hv
  obtain ⟨rfl, hsz, hP, hK, hD0, hN⟩ := hv
  have hx := B.exec
  have hb := B.bytes
  have hr := B.returns
  have hts : ∀ w ∈ TT, w.before _ s = true := fun w h => atoms_spec (ws := ww yX12_copyRow cX12_copyRow 5 none) B.pre w (List.mem_cons_of_mem _ h)
  have hown : s.vm.findClass RX12 = some m.cls := findClass_of_methodNamed B.named
  have hlocks := B.notSynchronized
  subst hsz
  have hD := hD0.self (sz := s.heap.size)
  generalize hAe : va_A [(p0, .inl (k 0, 40, .inl f19))] s.heap.size = A at hD ⊢
  have hA : ∀ q : Nat, s.heap.size ≤ q → A q := fun q h => by rw [← hAe]; exact Or.inr h
  have hS : va_S A s.heap s.heap [] := va_S.rf
  have hl := lv_entry ([.ref p0, .int 8, .int p2, .int p3]) (n := 5) (Nat.le_of_ble_eq_true rfl)
  rw [lg_entry_eq]
  generalize (lg_sl ([.ref p0, .int 8, .int p2, .int p3]) ++ List.replicate (5 - (lg_sl ([.ref p0, .int 8, .int p2, .int p3])).length) Slot.unset).toArray = ls at hl ⊢
  have hl : lv_has ls 5 [(0, .ref p0), (1, .int 8), (2, .int p2), (3, .int p3)] := hl
  refine lv_iconst (v := 0) hx hb dX12_copyRow_0 (by decide) ?_
  refine lv_istore (lv' := [(4, .int 0), (0, .ref p0), (1, .int 8), (2, .int p2), (3, .int p3)]) hx hb dX12_copyRow_1 hl (by decide) rfl (fun ls hl => ?_)
  refine loop_r (Wg := fun H locs ls => W p l e _ s m _ below meth c H locs _ _ _ (F0 m 3 ls [])) (fun n9 H locs ls => ∃ (L3l4 : Int32) (L3a0 : Nat → Int32), n9 = (8 - L3l4.toInt).toNat ∧ (0 ≤ L3l4.toInt ∧ L3l4.toInt ≤ 8) ∧ (PR 40 2 0 0 7 L3a0) ∧ (PR 40 2 1 0 99 L3a0) ∧ va_P D vwCl [(p0, .inl (k 0, 40, .inl L3a0))] H ∧ va_D A [(p0, .inl (k 0, 40, .inl L3a0))] ∧ va_S A s.heap H locs ∧ lv_has ls 5 [(0, .ref p0), (1, .int 8), (2, .int p2), (3, .int p3), (4, .int L3l4)]) (fun n9 H locs ls hI ih_1 => ?_) _ _ _ _ ⟨0, f19, rfl, (show 0 ≤ 0 ∧ 0 ≤ 8 from by omega), hp_f19_0, hp_f19_1, hP.sub (ws' := [(p0, .inl (k 0, 40, .inl f19))]) [0] rfl, hD.sub (ws' := [(p0, .inl (k 0, 40, .inl f19))]) [0] (by decide +kernel) rfl, hS, lv_sub hl [1, 2, 3, 4, 0] rfl⟩
  clear hP hD hS hl
  obtain ⟨L3l4, L3a0, en_2, zL3l4, L3a0h0, L3a0h1, hP, hD, hS, hl⟩ := hI
  refine lv_iload hx hb dX12_copyRow_3 (lv_at hl 4 rfl) ?_
  refine lv_iload_n hx hb dX12_copyRow_5 rfl (lv_at hl 1 rfl) ?_
  refine lv_icmp_ge (tgt := 31) hx hb dX12_copyRow_6 (by decide) (fun h_3 => ?_) (fun h_3 => ?_)
  · skip
    have zh_3 : 8 ≤ L3l4.toInt := z_le h_3
    obtain ⟨hP9, hD9⟩ := sub2 hP hD (ws' := [(p0, .inl (k 0, 40, .inl L3a0))]) [0] (by decide +kernel) rfl
    exact W.vret hx hb hr (fun tZ ht hW => ⟨⟨L3a0, rfl, ⟨L3a0h0, L3a0h1⟩, by rw [ht]; exact hP9, va_K.moved hW.alike hK, hD9⟩, hS.F ht⟩) hS.2.2 dX12_copyRow_31
  · skip
    have zh_3 : L3l4.toInt < 8 := z_nle h_3
    refine lv_aload_n hx hb dX12_copyRow_9 rfl (lv_at hl 0 rfl) ?_
    refine lv_iload_n hx hb dX12_copyRow_10 rfl (lv_at hl 1 rfl) ?_
    refine lv_iload_n hx hb dX12_copyRow_11 rfl (lv_at hl 3 rfl) ?_
    refine lv_imul hx hb dX12_copyRow_12 ?_
    refine lv_topi (fun x_4 ex_4 => ?_)
    have zx_4 : x_4.toInt = 8 * p3.toInt := by rw [ex_4]; exact z_mul rfl rfl (by omega) (by omega)
    refine lv_iload hx hb dX12_copyRow_13 (lv_at hl 4 rfl) ?_
    refine lv_iadd hx hb dX12_copyRow_15 ?_
    refine lv_topi (fun x_5 ex_5 => ?_)
    have zx_5 : x_5.toInt = x_4.toInt + L3l4.toInt := by rw [ex_5]; exact z_add rfl rfl (by omega) (by omega)
    refine lv_aload_n hx hb dX12_copyRow_16 rfl (lv_at hl 0 rfl) ?_
    refine lv_iload_n hx hb dX12_copyRow_17 rfl (lv_at hl 1 rfl) ?_
    refine lv_iload_n hx hb dX12_copyRow_18 rfl (lv_at hl 2 rfl) ?_
    refine lv_imul hx hb dX12_copyRow_19 ?_
    refine lv_topi (fun x_6 ex_6 => ?_)
    have zx_6 : x_6.toInt = 8 * p2.toInt := by rw [ex_6]; exact z_mul rfl rfl (by omega) (by omega)
    refine lv_iload hx hb dX12_copyRow_20 (lv_at hl 4 rfl) ?_
    refine lv_iadd hx hb dX12_copyRow_22 ?_
    refine lv_topi (fun x_7 ex_7 => ?_)
    have zx_7 : x_7.toInt = x_6.toInt + L3l4.toInt := by rw [ex_7]; exact z_add rfl rfl (by omega) (by omega)
    refine va_iald hx hb hK hP 0 0 rfl rfl (z_in (by omega) (by omega)) dX12_copyRow_23 ?_
    refine lv_topi (fun x_8 ex_8 => ?_)
    refine va_iast hx hb hK hP hD hS 0 0 rfl rfl (z_in (by omega) (by omega)) dX12_copyRow_24 (fun H locs hP hD hS => ?_)
    obtain ⟨g_9, eg_9⟩ : ∃ z : Nat → Int32, upd L3a0 x_5.toNatClampNeg x_8 = z := ⟨_, rfl⟩
    have hP : va_P D vwCl [(p0, .inl (k 0, 40, .inl (upd L3a0 x_5.toNatClampNeg x_8)))] H := hP
    have hD : va_D A [(p0, .inl (k 0, 40, .inl (upd L3a0 x_5.toNatClampNeg x_8)))] := hD
    rw [eg_9] at hP hD
    have hp_10 : PR 40 2 0 0 7 g_9 := by rw [← eg_9]; exact PR.cp L3a0h0 (i := x_7) (j := x_5) ex_8 (by omega) (by omega) (by omega) (by omega)
    have hp_11 : PR 40 2 1 0 99 g_9 := by rw [← eg_9]; exact PR.cp L3a0h1 (i := x_7) (j := x_5) ex_8 (by omega) (by omega) (by omega) (by omega)
    obtain ⟨x_12, ex_12⟩ : ∃ y : Int32, y = L3l4 + 1 := ⟨_, rfl⟩
    have zx_12 : x_12.toInt = L3l4.toInt + 1 := by rw [ex_12]; exact z_add rfl rfl (by omega) (by omega)
    refine lv_iinc (v := x_12) (lv' := [(4, .int x_12), (0, .ref p0), (1, .int 8), (2, .int p2), (3, .int p3)]) hx hb dX12_copyRow_25 hl (k := 4) rfl (by rw [ex_12]; rfl) (by decide) rfl (fun ls hl => ?_)
    refine lv_goto (tgt := 3) hx hb dX12_copyRow_28 (by decide) ?_
    exact ih_1 _ _ _ _ (by omega) ⟨x_12, g_9, rfl, (show 0 ≤ x_12.toInt ∧ x_12.toInt ≤ 8 from by omega), hp_10, hp_11, hP.sub (ws' := [(p0, .inl (k 0, 40, .inl g_9))]) [0] rfl, hD.sub (ws' := [(p0, .inl (k 0, 40, .inl g_9))]) [0] (by decide +kernel) rfl, hS, lv_sub hl [1, 2, 3, 4, 0] rfl⟩
set_option maxHeartbeats 4000000 in
set_option maxRecDepth 100000 in
theorem c_X12_copyRow_4 (l : Launch) (D : va_G) (k : Nat → ClassId) (p0 : Nat) (p2 : Int32) (p3 : Int32) (f20 : Nat → Int32) (sz : Nat) (h_p2 : 0 ≤ p2.toInt ∧ p2.toInt ≤ 4) (h_p3 : 0 ≤ p3.toInt ∧ p3.toInt ≤ 4) (hp_f20_0 : PR 120 4 0 0 7 f20) : Met l yX12_copyRow (ww yX12_copyRow cX12_copyRow 5 none) ({ frames := 0, cells := 0, slots := 0, locals := 0 }) (Pre0 D k [(p0, .inl (k 0, 120, .inl f20))] sz [.ref p0, .int 24, .int p2, .int p3]) (va_Qv (fun (f20z : (Nat → Int32)) => (PR 120 4 0 0 7 f20z)) (fun (f20z : (Nat → Int32)) tZ => Bw D k (va_A [(p0, .inl (k 0, 120, .inl f20))] sz) [(p0, .inl (k 0, 120, .inl f20z))] tZ) (va_A [(p0, .inl (k 0, 120, .inl f20))] sz)) 0 0 (va_A [(p0, .inl (k 0, 120, .inl f20))] sz) := by
  refine Met.ofW (cc := cX12_copyRow) (maxL := 5) (ret := none) (by decide +kernel) rfl ?_
  intro p e s m args below meth c s₁ B hml hv
  obtain ⟨rfl, hsz, hP, hK, hD0, hN⟩ := hv
  have hx := B.exec
  have hb := B.bytes
  have hr := B.returns
  have hts : ∀ w ∈ TT, w.before _ s = true := fun w h => atoms_spec (ws := ww yX12_copyRow cX12_copyRow 5 none) B.pre w (List.mem_cons_of_mem _ h)
  have hown : s.vm.findClass RX12 = some m.cls := findClass_of_methodNamed B.named
  have hlocks := B.notSynchronized
  subst hsz
  have hD := hD0.self (sz := s.heap.size)
  generalize hAe : va_A [(p0, .inl (k 0, 120, .inl f20))] s.heap.size = A at hD ⊢
  have hA : ∀ q : Nat, s.heap.size ≤ q → A q := fun q h => by rw [← hAe]; exact Or.inr h
  have hS : va_S A s.heap s.heap [] := va_S.rf
  have hl := lv_entry ([.ref p0, .int 24, .int p2, .int p3]) (n := 5) (Nat.le_of_ble_eq_true rfl)
  rw [lg_entry_eq]
  generalize (lg_sl ([.ref p0, .int 24, .int p2, .int p3]) ++ List.replicate (5 - (lg_sl ([.ref p0, .int 24, .int p2, .int p3])).length) Slot.unset).toArray = ls at hl ⊢
  have hl : lv_has ls 5 [(0, .ref p0), (1, .int 24), (2, .int p2), (3, .int p3)] := hl
  refine lv_iconst (v := 0) hx hb dX12_copyRow_0 (by decide) ?_
  refine lv_istore (lv' := [(4, .int 0), (0, .ref p0), (1, .int 24), (2, .int p2), (3, .int p3)]) hx hb dX12_copyRow_1 hl (by decide) rfl (fun ls hl => ?_)
  refine loop_r (Wg := fun H locs ls => W p l e _ s m _ below meth c H locs _ _ _ (F0 m 3 ls [])) (fun n9 H locs ls => ∃ (L3l4 : Int32) (L3a0 : Nat → Int32), n9 = (24 - L3l4.toInt).toNat ∧ (0 ≤ L3l4.toInt ∧ L3l4.toInt ≤ 24) ∧ (PR 120 4 0 0 7 L3a0) ∧ va_P D vwCl [(p0, .inl (k 0, 120, .inl L3a0))] H ∧ va_D A [(p0, .inl (k 0, 120, .inl L3a0))] ∧ va_S A s.heap H locs ∧ lv_has ls 5 [(0, .ref p0), (1, .int 24), (2, .int p2), (3, .int p3), (4, .int L3l4)]) (fun n9 H locs ls hI ih_1 => ?_) _ _ _ _ ⟨0, f20, rfl, (show 0 ≤ 0 ∧ 0 ≤ 24 from by omega), hp_f20_0, hP.sub (ws' := [(p0, .inl (k 0, 120, .inl f20))]) [0] rfl, hD.sub (ws' := [(p0, .inl (k 0, 120, .inl f20))]) [0] (by decide +kernel) rfl, hS, lv_sub hl [1, 2, 3, 4, 0] rfl⟩
  clear hP hD hS hl
  obtain ⟨L3l4, L3a0, en_2, zL3l4, L3a0h0, hP, hD, hS, hl⟩ := hI
  refine lv_iload hx hb dX12_copyRow_3 (lv_at hl 4 rfl) ?_
  refine lv_iload_n hx hb dX12_copyRow_5 rfl (lv_at hl 1 rfl) ?_
  refine lv_icmp_ge (tgt := 31) hx hb dX12_copyRow_6 (by decide) (fun h_3 => ?_) (fun h_3 => ?_)
  · skip
    have zh_3 : 24 ≤ L3l4.toInt := z_le h_3
    obtain ⟨hP9, hD9⟩ := sub2 hP hD (ws' := [(p0, .inl (k 0, 120, .inl L3a0))]) [0] (by decide +kernel) rfl
    exact W.vret hx hb hr (fun tZ ht hW => ⟨⟨L3a0, rfl, L3a0h0, by rw [ht]; exact hP9, va_K.moved hW.alike hK, hD9⟩, hS.F ht⟩) hS.2.2 dX12_copyRow_31
  · skip
    have zh_3 : L3l4.toInt < 24 := z_nle h_3
    refine lv_aload_n hx hb dX12_copyRow_9 rfl (lv_at hl 0 rfl) ?_
    refine lv_iload_n hx hb dX12_copyRow_10 rfl (lv_at hl 1 rfl) ?_
    refine lv_iload_n hx hb dX12_copyRow_11 rfl (lv_at hl 3 rfl) ?_
    refine lv_imul hx hb dX12_copyRow_12 ?_
    refine lv_topi (fun x_4 ex_4 => ?_)
    have zx_4 : x_4.toInt = 24 * p3.toInt := by rw [ex_4]; exact z_mul rfl rfl (by omega) (by omega)
    refine lv_iload hx hb dX12_copyRow_13 (lv_at hl 4 rfl) ?_
    refine lv_iadd hx hb dX12_copyRow_15 ?_
    refine lv_topi (fun x_5 ex_5 => ?_)
    have zx_5 : x_5.toInt = x_4.toInt + L3l4.toInt := by rw [ex_5]; exact z_add rfl rfl (by omega) (by omega)
    refine lv_aload_n hx hb dX12_copyRow_16 rfl (lv_at hl 0 rfl) ?_
    refine lv_iload_n hx hb dX12_copyRow_17 rfl (lv_at hl 1 rfl) ?_
    refine lv_iload_n hx hb dX12_copyRow_18 rfl (lv_at hl 2 rfl) ?_
    refine lv_imul hx hb dX12_copyRow_19 ?_
    refine lv_topi (fun x_6 ex_6 => ?_)
    have zx_6 : x_6.toInt = 24 * p2.toInt := by rw [ex_6]; exact z_mul rfl rfl (by omega) (by omega)
    refine lv_iload hx hb dX12_copyRow_20 (lv_at hl 4 rfl) ?_
    refine lv_iadd hx hb dX12_copyRow_22 ?_
    refine lv_topi (fun x_7 ex_7 => ?_)
    have zx_7 : x_7.toInt = x_6.toInt + L3l4.toInt := by rw [ex_7]; exact z_add rfl rfl (by omega) (by omega)
    refine va_iald hx hb hK hP 0 0 rfl rfl (z_in (by omega) (by omega)) dX12_copyRow_23 ?_
    refine lv_topi (fun x_8 ex_8 => ?_)
    refine va_iast hx hb hK hP hD hS 0 0 rfl rfl (z_in (by omega) (by omega)) dX12_copyRow_24 (fun H locs hP hD hS => ?_)
    obtain ⟨g_9, eg_9⟩ : ∃ z : Nat → Int32, upd L3a0 x_5.toNatClampNeg x_8 = z := ⟨_, rfl⟩
    have hP : va_P D vwCl [(p0, .inl (k 0, 120, .inl (upd L3a0 x_5.toNatClampNeg x_8)))] H := hP
    have hD : va_D A [(p0, .inl (k 0, 120, .inl (upd L3a0 x_5.toNatClampNeg x_8)))] := hD
    rw [eg_9] at hP hD
    have hp_10 : PR 120 4 0 0 7 g_9 := by rw [← eg_9]; exact PR.cp L3a0h0 (i := x_7) (j := x_5) ex_8 (by omega) (by omega) (by omega) (by omega)
    obtain ⟨x_11, ex_11⟩ : ∃ y : Int32, y = L3l4 + 1 := ⟨_, rfl⟩
    have zx_11 : x_11.toInt = L3l4.toInt + 1 := by rw [ex_11]; exact z_add rfl rfl (by omega) (by omega)
    refine lv_iinc (v := x_11) (lv' := [(4, .int x_11), (0, .ref p0), (1, .int 24), (2, .int p2), (3, .int p3)]) hx hb dX12_copyRow_25 hl (k := 4) rfl (by rw [ex_11]; rfl) (by decide) rfl (fun ls hl => ?_)
    refine lv_goto (tgt := 3) hx hb dX12_copyRow_28 (by decide) ?_
    exact ih_1 _ _ _ _ (by omega) ⟨x_11, g_9, rfl, (show 0 ≤ x_11.toInt ∧ x_11.toInt ≤ 24 from by omega), hp_10, hP.sub (ws' := [(p0, .inl (k 0, 120, .inl g_9))]) [0] rfl, hD.sub (ws' := [(p0, .inl (k 0, 120, .inl g_9))]) [0] (by decide +kernel) rfl, hS, lv_sub hl [1, 2, 3, 4, 0] rfl⟩
set_option maxHeartbeats 4000000 in
set_option maxRecDepth 100000 in
theorem c_X12_copyRow_5 (l : Launch) (D : va_G) (k : Nat → ClassId) (p0 : Nat) (p2 : Int32) (p3 : Int32) (f21 : Nat → Int32) (sz : Nat) (h_p2 : 0 ≤ p2.toInt ∧ p2.toInt ≤ 4) (h_p3 : 0 ≤ p3.toInt ∧ p3.toInt ≤ 4) (hp_f21_0 : PR 20 2 0 0 7 f21) (hp_f21_1 : PR 20 2 1 0 999 f21) : Met l yX12_copyRow (ww yX12_copyRow cX12_copyRow 5 none) ({ frames := 0, cells := 0, slots := 0, locals := 0 }) (Pre0 D k [(p0, .inl (k 0, 20, .inl f21))] sz [.ref p0, .int 4, .int p2, .int p3]) (va_Qv (fun (f21z : (Nat → Int32)) => (PR 20 2 0 0 7 f21z) ∧ (PR 20 2 1 0 999 f21z)) (fun (f21z : (Nat → Int32)) tZ => Bw D k (va_A [(p0, .inl (k 0, 20, .inl f21))] sz) [(p0, .inl (k 0, 20, .inl f21z))] tZ) (va_A [(p0, .inl (k 0, 20, .inl f21))] sz)) 0 0 (va_A [(p0, .inl (k 0, 20, .inl f21))] sz) := by
  refine Met.ofW (cc := cX12_copyRow) (maxL := 5) (ret := none) (by decide +kernel) rfl ?_
  intro p e s m args below meth c s₁ B hml hv
  obtain ⟨rfl, hsz, hP, hK, hD0, hN⟩ := hv
  have hx := B.exec
  have hb := B.bytes
  have hr := B.returns
  have hts : ∀ w ∈ TT, w.before _ s = true := fun w h => atoms_spec (ws := ww yX12_copyRow cX12_copyRow 5 none) B.pre w (List.mem_cons_of_mem _ h)
  have hown : s.vm.findClass RX12 = some m.cls := findClass_of_methodNamed B.named
  have hlocks := B.notSynchronized
  subst hsz
  have hD := hD0.self (sz := s.heap.size)
  generalize hAe : va_A [(p0, .inl (k 0, 20, .inl f21))] s.heap.size = A at hD ⊢
  have hA : ∀ q : Nat, s.heap.size ≤ q → A q := fun q h => by rw [← hAe]; exact Or.inr h
  have hS : va_S A s.heap s.heap [] := va_S.rf
  have hl := lv_entry ([.ref p0, .int 4, .int p2, .int p3]) (n := 5) (Nat.le_of_ble_eq_true rfl)
  rw [lg_entry_eq]
  generalize (lg_sl ([.ref p0, .int 4, .int p2, .int p3]) ++ List.replicate (5 - (lg_sl ([.ref p0, .int 4, .int p2, .int p3])).length) Slot.unset).toArray = ls at hl ⊢
  have hl : lv_has ls 5 [(0, .ref p0), (1, .int 4), (2, .int p2), (3, .int p3)] := hl
  refine lv_iconst (v := 0) hx hb dX12_copyRow_0 (by decide) ?_
  refine lv_istore (lv' := [(4, .int 0), (0, .ref p0), (1, .int 4), (2, .int p2), (3, .int p3)]) hx hb dX12_copyRow_1 hl (by decide) rfl (fun ls hl => ?_)
  refine loop_r (Wg := fun H locs ls => W p l e _ s m _ below meth c H locs _ _ _ (F0 m 3 ls [])) (fun n9 H locs ls => ∃ (L3l4 : Int32) (L3a0 : Nat → Int32), n9 = (4 - L3l4.toInt).toNat ∧ (0 ≤ L3l4.toInt ∧ L3l4.toInt ≤ 4) ∧ (PR 20 2 0 0 7 L3a0) ∧ (PR 20 2 1 0 999 L3a0) ∧ va_P D vwCl [(p0, .inl (k 0, 20, .inl L3a0))] H ∧ va_D A [(p0, .inl (k 0, 20, .inl L3a0))] ∧ va_S A s.heap H locs ∧ lv_has ls 5 [(0, .ref p0), (1, .int 4), (2, .int p2), (3, .int p3), (4, .int L3l4)]) (fun n9 H locs ls hI ih_1 => ?_) _ _ _ _ ⟨0, f21, rfl, (show 0 ≤ 0 ∧ 0 ≤ 4 from by omega), hp_f21_0, hp_f21_1, hP.sub (ws' := [(p0, .inl (k 0, 20, .inl f21))]) [0] rfl, hD.sub (ws' := [(p0, .inl (k 0, 20, .inl f21))]) [0] (by decide +kernel) rfl, hS, lv_sub hl [1, 2, 3, 4, 0] rfl⟩
  clear hP hD hS hl
  obtain ⟨L3l4, L3a0, en_2, zL3l4, L3a0h0, L3a0h1, hP, hD, hS, hl⟩ := hI
  refine lv_iload hx hb dX12_copyRow_3 (lv_at hl 4 rfl) ?_
  refine lv_iload_n hx hb dX12_copyRow_5 rfl (lv_at hl 1 rfl) ?_
  refine lv_icmp_ge (tgt := 31) hx hb dX12_copyRow_6 (by decide) (fun h_3 => ?_) (fun h_3 => ?_)
  · skip
    have zh_3 : 4 ≤ L3l4.toInt := z_le h_3
    obtain ⟨hP9, hD9⟩ := sub2 hP hD (ws' := [(p0, .inl (k 0, 20, .inl L3a0))]) [0] (by decide +kernel) rfl
    exact W.vret hx hb hr (fun tZ ht hW => ⟨⟨L3a0, rfl, ⟨L3a0h0, L3a0h1⟩, by rw [ht]; exact hP9, va_K.moved hW.alike hK, hD9⟩, hS.F ht⟩) hS.2.2 dX12_copyRow_31
  · skip
    have zh_3 : L3l4.toInt < 4 := z_nle h_3
    refine lv_aload_n hx hb dX12_copyRow_9 rfl (lv_at hl 0 rfl) ?_
    refine lv_iload_n hx hb dX12_copyRow_10 rfl (lv_at hl 1 rfl) ?_
    refine lv_iload_n hx hb dX12_copyRow_11 rfl (lv_at hl 3 rfl) ?_
    refine lv_imul hx hb dX12_copyRow_12 ?_
    refine lv_topi (fun x_4 ex_4 => ?_)
    have zx_4 : x_4.toInt = 4 * p3.toInt := by rw [ex_4]; exact z_mul rfl rfl (by omega) (by omega)
    refine lv_iload hx hb dX12_copyRow_13 (lv_at hl 4 rfl) ?_
    refine lv_iadd hx hb dX12_copyRow_15 ?_
    refine lv_topi (fun x_5 ex_5 => ?_)
    have zx_5 : x_5.toInt = x_4.toInt + L3l4.toInt := by rw [ex_5]; exact z_add rfl rfl (by omega) (by omega)
    refine lv_aload_n hx hb dX12_copyRow_16 rfl (lv_at hl 0 rfl) ?_
    refine lv_iload_n hx hb dX12_copyRow_17 rfl (lv_at hl 1 rfl) ?_
    refine lv_iload_n hx hb dX12_copyRow_18 rfl (lv_at hl 2 rfl) ?_
    refine lv_imul hx hb dX12_copyRow_19 ?_
    refine lv_topi (fun x_6 ex_6 => ?_)
    have zx_6 : x_6.toInt = 4 * p2.toInt := by rw [ex_6]; exact z_mul rfl rfl (by omega) (by omega)
    refine lv_iload hx hb dX12_copyRow_20 (lv_at hl 4 rfl) ?_
    refine lv_iadd hx hb dX12_copyRow_22 ?_
    refine lv_topi (fun x_7 ex_7 => ?_)
    have zx_7 : x_7.toInt = x_6.toInt + L3l4.toInt := by rw [ex_7]; exact z_add rfl rfl (by omega) (by omega)
    refine va_iald hx hb hK hP 0 0 rfl rfl (z_in (by omega) (by omega)) dX12_copyRow_23 ?_
    refine lv_topi (fun x_8 ex_8 => ?_)
    refine va_iast hx hb hK hP hD hS 0 0 rfl rfl (z_in (by omega) (by omega)) dX12_copyRow_24 (fun H locs hP hD hS => ?_)
    obtain ⟨g_9, eg_9⟩ : ∃ z : Nat → Int32, upd L3a0 x_5.toNatClampNeg x_8 = z := ⟨_, rfl⟩
    have hP : va_P D vwCl [(p0, .inl (k 0, 20, .inl (upd L3a0 x_5.toNatClampNeg x_8)))] H := hP
    have hD : va_D A [(p0, .inl (k 0, 20, .inl (upd L3a0 x_5.toNatClampNeg x_8)))] := hD
    rw [eg_9] at hP hD
    have hp_10 : PR 20 2 0 0 7 g_9 := by rw [← eg_9]; exact PR.cp L3a0h0 (i := x_7) (j := x_5) ex_8 (by omega) (by omega) (by omega) (by omega)
    have hp_11 : PR 20 2 1 0 999 g_9 := by rw [← eg_9]; exact PR.cp L3a0h1 (i := x_7) (j := x_5) ex_8 (by omega) (by omega) (by omega) (by omega)
    obtain ⟨x_12, ex_12⟩ : ∃ y : Int32, y = L3l4 + 1 := ⟨_, rfl⟩
    have zx_12 : x_12.toInt = L3l4.toInt + 1 := by rw [ex_12]; exact z_add rfl rfl (by omega) (by omega)
    refine lv_iinc (v := x_12) (lv' := [(4, .int x_12), (0, .ref p0), (1, .int 4), (2, .int p2), (3, .int p3)]) hx hb dX12_copyRow_25 hl (k := 4) rfl (by rw [ex_12]; rfl) (by decide) rfl (fun ls hl => ?_)
    refine lv_goto (tgt := 3) hx hb dX12_copyRow_28 (by decide) ?_
    exact ih_1 _ _ _ _ (by omega) ⟨x_12, g_9, rfl, (show 0 ≤ x_12.toInt ∧ x_12.toInt ≤ 4 from by omega), hp_10, hp_11, hP.sub (ws' := [(p0, .inl (k 0, 20, .inl g_9))]) [0] rfl, hD.sub (ws' := [(p0, .inl (k 0, 20, .inl g_9))]) [0] (by decide +kernel) rfl, hS, lv_sub hl [1, 2, 3, 4, 0] rfl⟩
set_option maxHeartbeats 4000000 in
set_option maxRecDepth 100000 in
theorem c_X12_copyRow_6 (l : Launch) (D : va_G) (k : Nat → ClassId) (p0 : Nat) (p2 : Int32) (p3 : Int32) (f22 : Nat → Int32) (sz : Nat) (h_p2 : 0 ≤ p2.toInt ∧ p2.toInt ≤ 4) (h_p3 : 0 ≤ p3.toInt ∧ p3.toInt ≤ 4) (hp_f22_0 : PR 600 3 1 0 9 f22) (hp_f22_1 : PR 600 3 2 0 99 f22) (hp_f22_2 : AK f22) (hne : ¬ p2.toInt = p3.toInt) : Met l yX12_copyRow (ww yX12_copyRow cX12_copyRow 5 none) ({ frames := 0, cells := 0, slots := 0, locals := 0 }) (Pre0 D k [(p0, .inl (k 0, 600, .inl f22))] sz [.ref p0, .int 120, .int p2, .int p3]) (va_Qv (fun (f22z : (Nat → Int32)) => (PR 600 3 1 0 9 f22z) ∧ (PR 600 3 2 0 99 f22z) ∧ (AK f22z)) (fun (f22z : (Nat → Int32)) tZ => Bw D k (va_A [(p0, .inl (k 0, 600, .inl f22))] sz) [(p0, .inl (k 0, 600, .inl f22z))] tZ) (va_A [(p0, .inl (k 0, 600, .inl f22))] sz)) 0 0 (va_A [(p0, .inl (k 0, 600, .inl f22))] sz) := by
  refine Met.ofW (cc := cX12_copyRow) (maxL := 5) (ret := none) (by decide +kernel) rfl ?_
  intro p e s m args below meth c s₁ B hml hv
  obtain ⟨rfl, hsz, hP, hK, hD0, hN⟩ := hv
  have hx := B.exec
  have hb := B.bytes
  have hr := B.returns
  have hts : ∀ w ∈ TT, w.before _ s = true := fun w h => atoms_spec (ws := ww yX12_copyRow cX12_copyRow 5 none) B.pre w (List.mem_cons_of_mem _ h)
  have hown : s.vm.findClass RX12 = some m.cls := findClass_of_methodNamed B.named
  have hlocks := B.notSynchronized
  subst hsz
  have hD := hD0.self (sz := s.heap.size)
  generalize hAe : va_A [(p0, .inl (k 0, 600, .inl f22))] s.heap.size = A at hD ⊢
  have hA : ∀ q : Nat, s.heap.size ≤ q → A q := fun q h => by rw [← hAe]; exact Or.inr h
  have hS : va_S A s.heap s.heap [] := va_S.rf
  have hl := lv_entry ([.ref p0, .int 120, .int p2, .int p3]) (n := 5) (Nat.le_of_ble_eq_true rfl)
  rw [lg_entry_eq]
  generalize (lg_sl ([.ref p0, .int 120, .int p2, .int p3]) ++ List.replicate (5 - (lg_sl ([.ref p0, .int 120, .int p2, .int p3])).length) Slot.unset).toArray = ls at hl ⊢
  have hl : lv_has ls 5 [(0, .ref p0), (1, .int 120), (2, .int p2), (3, .int p3)] := hl
  refine lv_iconst (v := 0) hx hb dX12_copyRow_0 (by decide) ?_
  refine lv_istore (lv' := [(4, .int 0), (0, .ref p0), (1, .int 120), (2, .int p2), (3, .int p3)]) hx hb dX12_copyRow_1 hl (by decide) rfl (fun ls hl => ?_)
  refine loop_r (Wg := fun H locs ls => W p l e _ s m _ below meth c H locs _ _ _ (F0 m 3 ls [])) (fun n9 H locs ls => ∃ (L3l4 : Int32) (L3a0 : Nat → Int32), n9 = (120 - L3l4.toInt).toNat ∧ (0 ≤ L3l4.toInt ∧ L3l4.toInt ≤ 120) ∧ (PR 600 3 1 0 9 L3a0) ∧ (PR 600 3 2 0 99 L3a0) ∧ (CP 120 p2.toInt p3.toInt L3l4.toInt f22 L3a0) ∧ va_P D vwCl [(p0, .inl (k 0, 600, .inl L3a0))] H ∧ va_D A [(p0, .inl (k 0, 600, .inl L3a0))] ∧ va_S A s.heap H locs ∧ lv_has ls 5 [(0, .ref p0), (1, .int 120), (2, .int p2), (3, .int p3), (4, .int L3l4)]) (fun n9 H locs ls hI ih_1 => ?_) _ _ _ _ ⟨0, f22, rfl, (show 0 ≤ 0 ∧ 0 ≤ 120 from by omega), hp_f22_0, hp_f22_1, (CP.zero _ _ _ _ rfl), hP.sub (ws' := [(p0, .inl (k 0, 600, .inl f22))]) [0] rfl, hD.sub (ws' := [(p0, .inl (k 0, 600, .inl f22))]) [0] (by decide +kernel) rfl, hS, lv_sub hl [1, 2, 3, 4, 0] rfl⟩
  clear hP hD hS hl
  obtain ⟨L3l4, L3a0, en_2, zL3l4, L3a0h0, L3a0h1, hi3x0, hP, hD, hS, hl⟩ := hI
  refine lv_iload hx hb dX12_copyRow_3 (lv_at hl 4 rfl) ?_
  refine lv_iload_n hx hb dX12_copyRow_5 rfl (lv_at hl 1 rfl) ?_
  refine lv_icmp_ge (tgt := 31) hx hb dX12_copyRow_6 (by decide) (fun h_3 => ?_) (fun h_3 => ?_)
  · skip
    have zh_3 : 120 ≤ L3l4.toInt := z_le h_3
    obtain ⟨hP9, hD9⟩ := sub2 hP hD (ws' := [(p0, .inl (k 0, 600, .inl L3a0))]) [0] (by decide +kernel) rfl
    exact W.vret hx hb hr (fun tZ ht hW => ⟨⟨L3a0, rfl, ⟨L3a0h0, L3a0h1, (AK.cp hp_f22_2 (k := L3l4.toInt) hi3x0 (by omega) (by omega) (by omega) (by omega) (by omega))⟩, by rw [ht]; exact hP9, va_K.moved hW.alike hK, hD9⟩, hS.F ht⟩) hS.2.2 dX12_copyRow_31
  · skip
    have zh_3 : L3l4.toInt < 120 := z_nle h_3
    refine lv_aload_n hx hb dX12_copyRow_9 rfl (lv_at hl 0 rfl) ?_
    refine lv_iload_n hx hb dX12_copyRow_10 rfl (lv_at hl 1 rfl) ?_
    refine lv_iload_n hx hb dX12_copyRow_11 rfl (lv_at hl 3 rfl) ?_
    refine lv_imul hx hb dX12_copyRow_12 ?_
    refine lv_topi (fun x_4 ex_4 => ?_)
    have zx_4 : x_4.toInt = 120 * p3.toInt := by rw [ex_4]; exact z_mul rfl rfl (by omega) (by omega)
    refine lv_iload hx hb dX12_copyRow_13 (lv_at hl 4 rfl) ?_
    refine lv_iadd hx hb dX12_copyRow_15 ?_
    refine lv_topi (fun x_5 ex_5 => ?_)
    have zx_5 : x_5.toInt = x_4.toInt + L3l4.toInt := by rw [ex_5]; exact z_add rfl rfl (by omega) (by omega)
    refine lv_aload_n hx hb dX12_copyRow_16 rfl (lv_at hl 0 rfl) ?_
    refine lv_iload_n hx hb dX12_copyRow_17 rfl (lv_at hl 1 rfl) ?_
    refine lv_iload_n hx hb dX12_copyRow_18 rfl (lv_at hl 2 rfl) ?_
    refine lv_imul hx hb dX12_copyRow_19 ?_
    refine lv_topi (fun x_6 ex_6 => ?_)
    have zx_6 : x_6.toInt = 120 * p2.toInt := by rw [ex_6]; exact z_mul rfl rfl (by omega) (by omega)
    refine lv_iload hx hb dX12_copyRow_20 (lv_at hl 4 rfl) ?_
    refine lv_iadd hx hb dX12_copyRow_22 ?_
    refine lv_topi (fun x_7 ex_7 => ?_)
    have zx_7 : x_7.toInt = x_6.toInt + L3l4.toInt := by rw [ex_7]; exact z_add rfl rfl (by omega) (by omega)
    refine va_iald hx hb hK hP 0 0 rfl rfl (z_in (by omega) (by omega)) dX12_copyRow_23 ?_
    refine lv_topi (fun x_8 ex_8 => ?_)
    refine va_iast hx hb hK hP hD hS 0 0 rfl rfl (z_in (by omega) (by omega)) dX12_copyRow_24 (fun H locs hP hD hS => ?_)
    obtain ⟨g_9, eg_9⟩ : ∃ z : Nat → Int32, upd L3a0 x_5.toNatClampNeg x_8 = z := ⟨_, rfl⟩
    have hP : va_P D vwCl [(p0, .inl (k 0, 600, .inl (upd L3a0 x_5.toNatClampNeg x_8)))] H := hP
    have hD : va_D A [(p0, .inl (k 0, 600, .inl (upd L3a0 x_5.toNatClampNeg x_8)))] := hD
    rw [eg_9] at hP hD
    have hp_10 : PR 600 3 1 0 9 g_9 := by rw [← eg_9]; exact PR.cp L3a0h0 (i := x_7) (j := x_5) ex_8 (by omega) (by omega) (by omega) (by omega)
    have hp_11 : PR 600 3 2 0 99 g_9 := by rw [← eg_9]; exact PR.cp L3a0h1 (i := x_7) (j := x_5) ex_8 (by omega) (by omega) (by omega) (by omega)
    obtain ⟨x_12, ex_12⟩ : ∃ y : Int32, y = L3l4 + 1 := ⟨_, rfl⟩
    have zx_12 : x_12.toInt = L3l4.toInt + 1 := by rw [ex_12]; exact z_add rfl rfl (by omega) (by omega)
    refine lv_iinc (v := x_12) (lv' := [(4, .int x_12), (0, .ref p0), (1, .int 120), (2, .int p2), (3, .int p3)]) hx hb dX12_copyRow_25 hl (k := 4) rfl (by rw [ex_12]; rfl) (by decide) rfl (fun ls hl => ?_)
    refine lv_goto (tgt := 3) hx hb dX12_copyRow_28 (by decide) ?_
    exact ih_1 _ _ _ _ (by omega) ⟨x_12, g_9, rfl, (show 0 ≤ x_12.toInt ∧ x_12.toInt ≤ 120 from by omega), hp_10, hp_11, (show CP 120 p2.toInt p3.toInt x_12.toInt f22 g_9 from by rw [← eg_9, ex_8]; exact CP.step hi3x0 (by omega) (by omega) (by omega) (by omega) (by omega) (by omega) (by omega) (by omega)), hP.sub (ws' := [(p0, .inl (k 0, 600, .inl g_9))]) [0] rfl, hD.sub (ws' := [(p0, .inl (k 0, 600, .inl g_9))]) [0] (by decide +kernel) rfl, hS, lv_sub hl [1, 2, 3, 4, 0] rfl⟩
set_option maxHeartbeats 4000000 in
set_option maxRecDepth 100000 in
theorem c_X12_copyTown (l : Launch) (D : va_G) (k : Nat → ClassId) (mo : Nat) (p0 : Int32) (p1 : Int32) (v0 : Int32) (m1 : Nat) (m2 : Nat) (m3 : Nat) (m4 : Nat) (m5 : Nat) (v6 : Int32) (v7 : Int32) (v8 : Int32) (v9 : Int32) (v10 : Int32) (v11 : Int64) (v12 : Int32) (v13 : Int32) (v14 : Int32) (v15 : Int32) (m16 : Nat) (m17 : Nat) (m18 : Nat) (m19 : Nat) (m20 : Nat) (m21 : Nat) (m22 : Nat) (m23 : Nat) (v24 : Int32) (m25 : Nat) (m26 : Nat) (m27 : Nat) (m28 : Nat) (m29 : Nat) (v30 : Int32) (m31 : Nat) (m32 : Nat) (m33 : Nat) (v34 : Int32) (v35 : Int32) (v36 : Int32) (m37 : Nat) (m38 : Nat) (m39 : Nat) (m40 : Nat) (v41 : Int64) (f16 : Nat → Int32) (f17 : Nat → Int32) (f18 : Nat → Int32) (f19 : Nat → Int32) (f20 : Nat → Int32) (f21 : Nat → Int32) (f22 : Nat → Int32) (sz : Nat) (h_p0 : 0 ≤ p0.toInt ∧ p0.toInt ≤ 4) (h_p1 : 0 ≤ p1.toInt ∧ p1.toInt ≤ 4) (h_v6 : 0 ≤ v6.toInt ∧ v6.toInt ≤ 1000) (h_v24 : 0 ≤ v24.toInt ∧ v24.toInt ≤ 1023) (hp_f17_0 : PR 30 6 0 0 8 f17) (hp_f17_1 : PR 30 6 1 0 10 f17) (hp_f17_2 : PR 30 6 2 0 4 f17) (hp_f17_3 : PR 30 6 3 0 6 f17) (hp_f17_4 : PR 30 6 4 0 2 f17) (hp_f17_5 : PR 30 6 5 0 40 f17) (hp_f18_0 : PR 250 5 0 0 7 f18) (hp_f18_1 : PR 250 5 1 0 7 f18) (hp_f18_2 : PR 250 5 2 0 60 f18) (hp_f18_3 : PR 250 5 3 0 10 f18) (hp_f19_0 : PR 40 2 0 0 7 f19) (hp_f19_1 : PR 40 2 1 0 99 f19) (hp_f20_0 : PR 120 4 0 0 7 f20) (hp_f21_0 : PR 20 2 0 0 7 f21) (hp_f21_1 : PR 20 2 1 0 999 f21) (hp_f22_0 : PR 600 3 1 0 9 f22) (hp_f22_1 : PR 600 3 2 0 99 f22) (hp_f22_2 : AK f22) (hne : ¬ p0.toInt = p1.toInt) (hTK : TK f17 f18) : Met l yX12_copyTown (ww yX12_copyTown cX12_copyTown 3 none) ({ frames := 1, cells := 0, slots := 0, locals := 24 }) (Pre0 D k [(mo, .inr (12, [.int v0, .ref m1, .ref m2, .ref m3, .ref m4, .ref m5, .int v6, .int v7, .int v8, .int v9, .int v10, .long v11, .int v12, .int v13, .int v14, .int v15, .ref m16, .ref m17, .ref m18, .ref m19, .ref m20, .ref m21, .ref m22, .ref m23, .int v24, .ref m25, .ref m26, .ref m27, .ref m28, .ref m29, .int v30, .ref m31, .ref m32, .ref m33, .int v34, .int v35, .int v36, .ref m37, .ref m38, .ref m39, .ref m40, .long v41])), (m16, .inl (k 0, 5, .inl f16)), (m17, .inl (k 0, 30, .inl f17)), (m18, .inl (k 0, 250, .inl f18)), (m19, .inl (k 0, 40, .inl f19)), (m20, .inl (k 0, 120, .inl f20)), (m21, .inl (k 0, 20, .inl f21)), (m22, .inl (k 0, 600, .inl f22))] sz [.ref mo, .int p0, .int p1]) (va_Qv (fun (u : (Nat → Int32) × (Nat → Int32) × (Nat → Int32) × (Nat → Int32) × (Nat → Int32) × (Nat → Int32) × (Nat → Int32)) => match u with | (f16z, f17z, f18z, f19z, f20z, f21z, f22z) => (PR 30 6 0 0 8 f17z) ∧ (PR 30 6 1 0 10 f17z) ∧ (PR 30 6 2 0 4 f17z) ∧ (PR 30 6 3 0 6 f17z) ∧ (PR 30 6 4 0 2 f17z) ∧ (PR 30 6 5 0 40 f17z) ∧ (PR 250 5 0 0 7 f18z) ∧ (PR 250 5 1 0 7 f18z) ∧ (PR 250 5 2 0 60 f18z) ∧ (PR 250 5 3 0 10 f18z) ∧ (PR 40 2 0 0 7 f19z) ∧ (PR 40 2 1 0 99 f19z) ∧ (PR 120 4 0 0 7 f20z) ∧ (PR 20 2 0 0 7 f21z) ∧ (PR 20 2 1 0 999 f21z) ∧ (PR 600 3 1 0 9 f22z) ∧ (PR 600 3 2 0 99 f22z) ∧ (AK f22z) ∧ (TK f17z f18z)) (fun (u : (Nat → Int32) × (Nat → Int32) × (Nat → Int32) × (Nat → Int32) × (Nat → Int32) × (Nat → Int32) × (Nat → Int32)) tZ => match u with | (f16z, f17z, f18z, f19z, f20z, f21z, f22z) => Bw D k (va_A [(mo, .inr (12, [.int v0, .ref m1, .ref m2, .ref m3, .ref m4, .ref m5, .int v6, .int v7, .int v8, .int v9, .int v10, .long v11, .int v12, .int v13, .int v14, .int v15, .ref m16, .ref m17, .ref m18, .ref m19, .ref m20, .ref m21, .ref m22, .ref m23, .int v24, .ref m25, .ref m26, .ref m27, .ref m28, .ref m29, .int v30, .ref m31, .ref m32, .ref m33, .int v34, .int v35, .int v36, .ref m37, .ref m38, .ref m39, .ref m40, .long v41])), (m16, .inl (k 0, 5, .inl f16)), (m17, .inl (k 0, 30, .inl f17)), (m18, .inl (k 0, 250, .inl f18)), (m19, .inl (k 0, 40, .inl f19)), (m20, .inl (k 0, 120, .inl f20)), (m21, .inl (k 0, 20, .inl f21)), (m22, .inl (k 0, 600, .inl f22))] sz) [(mo, .inr (12, [.int v0, .ref m1, .ref m2, .ref m3, .ref m4, .ref m5, .int v6, .int v7, .int v8, .int v9, .int v10, .long v11, .int v12, .int v13, .int v14, .int v15, .ref m16, .ref m17, .ref m18, .ref m19, .ref m20, .ref m21, .ref m22, .ref m23, .int v24, .ref m25, .ref m26, .ref m27, .ref m28, .ref m29, .int v30, .ref m31, .ref m32, .ref m33, .int v34, .int v35, .int v36, .ref m37, .ref m38, .ref m39, .ref m40, .long v41])), (m16, .inl (k 0, 5, .inl f16z)), (m17, .inl (k 0, 30, .inl f17z)), (m18, .inl (k 0, 250, .inl f18z)), (m19, .inl (k 0, 40, .inl f19z)), (m20, .inl (k 0, 120, .inl f20z)), (m21, .inl (k 0, 20, .inl f21z)), (m22, .inl (k 0, 600, .inl f22z))] tZ) (va_A [(mo, .inr (12, [.int v0, .ref m1, .ref m2, .ref m3, .ref m4, .ref m5, .int v6, .int v7, .int v8, .int v9, .int v10, .long v11, .int v12, .int v13, .int v14, .int v15, .ref m16, .ref m17, .ref m18, .ref m19, .ref m20, .ref m21, .ref m22, .ref m23, .int v24, .ref m25, .ref m26, .ref m27, .ref m28, .ref m29, .int v30, .ref m31, .ref m32, .ref m33, .int v34, .int v35, .int v36, .ref m37, .ref m38, .ref m39, .ref m40, .long v41])), (m16, .inl (k 0, 5, .inl f16)), (m17, .inl (k 0, 30, .inl f17)), (m18, .inl (k 0, 250, .inl f18)), (m19, .inl (k 0, 40, .inl f19)), (m20, .inl (k 0, 120, .inl f20)), (m21, .inl (k 0, 20, .inl f21)), (m22, .inl (k 0, 600, .inl f22))] sz)) 0 0 (va_A [(mo, .inr (12, [.int v0, .ref m1, .ref m2, .ref m3, .ref m4, .ref m5, .int v6, .int v7, .int v8, .int v9, .int v10, .long v11, .int v12, .int v13, .int v14, .int v15, .ref m16, .ref m17, .ref m18, .ref m19, .ref m20, .ref m21, .ref m22, .ref m23, .int v24, .ref m25, .ref m26, .ref m27, .ref m28, .ref m29, .int v30, .ref m31, .ref m32, .ref m33, .int v34, .int v35, .int v36, .ref m37, .ref m38, .ref m39, .ref m40, .long v41])), (m16, .inl (k 0, 5, .inl f16)), (m17, .inl (k 0, 30, .inl f17)), (m18, .inl (k 0, 250, .inl f18)), (m19, .inl (k 0, 40, .inl f19)), (m20, .inl (k 0, 120, .inl f20)), (m21, .inl (k 0, 20, .inl f21)), (m22, .inl (k 0, 600, .inl f22))] sz) := by
  refine Met.ofW (cc := cX12_copyTown) (maxL := 3) (ret := none) (by decide +kernel) rfl ?_
  intro p e s m args below meth c s₁ B hml hv
  obtain ⟨rfl, hsz, hP, hK, hD0, hN⟩ := hv
  have hx := B.exec
  have hb := B.bytes
  have hr := B.returns
  have hts : ∀ w ∈ TT, w.before _ s = true := fun w h => atoms_spec (ws := ww yX12_copyTown cX12_copyTown 3 none) B.pre w (List.mem_cons_of_mem _ h)
  have hown : s.vm.findClass RX12 = some m.cls := findClass_of_methodNamed B.named
  have hlocks := B.notSynchronized
  subst hsz
  have hD := hD0.self (sz := s.heap.size)
  generalize hAe : va_A [(mo, .inr (12, [.int v0, .ref m1, .ref m2, .ref m3, .ref m4, .ref m5, .int v6, .int v7, .int v8, .int v9, .int v10, .long v11, .int v12, .int v13, .int v14, .int v15, .ref m16, .ref m17, .ref m18, .ref m19, .ref m20, .ref m21, .ref m22, .ref m23, .int v24, .ref m25, .ref m26, .ref m27, .ref m28, .ref m29, .int v30, .ref m31, .ref m32, .ref m33, .int v34, .int v35, .int v36, .ref m37, .ref m38, .ref m39, .ref m40, .long v41])), (m16, .inl (k 0, 5, .inl f16)), (m17, .inl (k 0, 30, .inl f17)), (m18, .inl (k 0, 250, .inl f18)), (m19, .inl (k 0, 40, .inl f19)), (m20, .inl (k 0, 120, .inl f20)), (m21, .inl (k 0, 20, .inl f21)), (m22, .inl (k 0, 600, .inl f22))] s.heap.size = A at hD ⊢
  have hA : ∀ q : Nat, s.heap.size ≤ q → A q := fun q h => by rw [← hAe]; exact Or.inr h
  have hS : va_S A s.heap s.heap [] := va_S.rf
  have hl := lv_entry ([.ref mo, .int p0, .int p1]) (n := 3) (Nat.le_of_ble_eq_true rfl)
  rw [lg_entry_eq]
  generalize (lg_sl ([.ref mo, .int p0, .int p1]) ++ List.replicate (3 - (lg_sl ([.ref mo, .int p0, .int p1])).length) Slot.unset).toArray = ls at hl ⊢
  have hl : lv_has ls 3 [(0, .ref mo), (1, .int p0), (2, .int p1)] := hl
  refine lv_aload_n hx hb dX12_copyTown_0 rfl (lv_at hl 0 rfl) ?_
  refine va_get (D := D) (ci := 12) (v := .ref m16) (C := RX12) (T := TX12) (N := 42) hx hb hts iT_X12 hown hK hP 0 rfl rfl 16 (by decide) (hts _ tw_6_69) (fun _ h9 => h9) rfl dX12_copyTown_1 ?_
  refine lv_iconst (v := 1) hx hb dX12_copyTown_4 (by decide) ?_
  refine lv_iload_n hx hb dX12_copyTown_5 rfl (lv_at hl 1 rfl) ?_
  refine lv_iload_n hx hb dX12_copyTown_6 rfl (lv_at hl 2 rfl) ?_
  obtain ⟨hPc, hDc, hFc⟩ := sub3 hP hD hS hA (ws' := [(m16, .inl (k 0, 5, .inl f16))]) [1] (by decide +kernel) rfl
  refine va_callv (va_runS (As := [.ref m16, .int 1, .int p0, .int p1]) (rest := []) ⟨hx, hb, hml, hown, hts⟩ (c_X12_copyRow_0 l D k m16 p0 p1 f16 s.heap.size (show 0 ≤ p0.toInt ∧ p0.toInt ≤ 4 from by omega) (show 0 ≤ p1.toInt ∧ p1.toInt ≤ 4 from by omega)) (va_cwS 4 hts (gS tw_7_91 tw_7_92 tw_1_13 tw_7_93) rfl rfl rfl hdS_X12_copyRow ⟨Nat.le_of_ble_eq_true rfl, Nat.le_of_ble_eq_true rfl⟩) (cz_S hK hPc hDc hN [.ref m16, .int 1, .int p0, .int p1]) rfl rfl hl.1 rfl (lv_room (Nat.le_of_ble_eq_true rfl)) dX12_copyTown_7 ⟨Nat.le_of_ble_eq_true rfl, Nat.le_of_ble_eq_true rfl⟩) hS (fun q _ h => hFc q h) hFc (fun uZ tZ H1 locs ht hvm hw hB hz1 hk1 hS => ?_)
  obtain ⟨o_2, rfl⟩ : ∃ z, z = uZ := ⟨_, rfl⟩
  obtain ⟨hP1, hK1, hD1⟩ := hB
  rw [ht] at hP1
  obtain ⟨hP, hD⟩ := va_join (wr := [(mo, .inr (12, [.int v0, .ref m1, .ref m2, .ref m3, .ref m4, .ref m5, .int v6, .int v7, .int v8, .int v9, .int v10, .long v11, .int v12, .int v13, .int v14, .int v15, .ref m16, .ref m17, .ref m18, .ref m19, .ref m20, .ref m21, .ref m22, .ref m23, .int v24, .ref m25, .ref m26, .ref m27, .ref m28, .ref m29, .int v30, .ref m31, .ref m32, .ref m33, .int v34, .int v35, .int v36, .ref m37, .ref m38, .ref m39, .ref m40, .long v41])), (m17, .inl (k 0, 30, .inl f17)), (m18, .inl (k 0, 250, .inl f18)), (m19, .inl (k 0, 40, .inl f19)), (m20, .inl (k 0, 120, .inl f20)), (m21, .inl (k 0, 20, .inl f21)), (m22, .inl (k 0, 600, .inl f22))]) (w1 := [(m16, .inl (k 0, 5, .inl o_2))]) hP hD [1] [0, 2, 3, 4, 5, 6, 7] rfl rfl (by decide +kernel) (by decide +kernel) hk1 hFc hP1 hD1
  clear hK1 hP1 hD1 hPc hDc hFc
  clear hk1 hz1 ht hvm
  have hP : va_P D vwCl [(mo, .inr (12, [.int v0, .ref m1, .ref m2, .ref m3, .ref m4, .ref m5, .int v6, .int v7, .int v8, .int v9, .int v10, .long v11, .int v12, .int v13, .int v14, .int v15, .ref m16, .ref m17, .ref m18, .ref m19, .ref m20, .ref m21, .ref m22, .ref m23, .int v24, .ref m25, .ref m26, .ref m27, .ref m28, .ref m29, .int v30, .ref m31, .ref m32, .ref m33, .int v34, .int v35, .int v36, .ref m37, .ref m38, .ref m39, .ref m40, .long v41])), (m17, .inl (k 0, 30, .inl f17)), (m18, .inl (k 0, 250, .inl f18)), (m19, .inl (k 0, 40, .inl f19)), (m20, .inl (k 0, 120, .inl f20)), (m21, .inl (k 0, 20, .inl f21)), (m22, .inl (k 0, 600, .inl f22)), (m16, .inl (k 0, 5, .inl o_2))] H1 := hP
  have hD : va_D A [(mo, .inr (12, [.int v0, .ref m1, .ref m2, .ref m3, .ref m4, .ref m5, .int v6, .int v7, .int v8, .int v9, .int v10, .long v11, .int v12, .int v13, .int v14, .int v15, .ref m16, .ref m17, .ref m18, .ref m19, .ref m20, .ref m21, .ref m22, .ref m23, .int v24, .ref m25, .ref m26, .ref m27, .ref m28, .ref m29, .int v30, .ref m31, .ref m32, .ref m33, .int v34, .int v35, .int v36, .ref m37, .ref m38, .ref m39, .ref m40, .long v41])), (m17, .inl (k 0, 30, .inl f17)), (m18, .inl (k 0, 250, .inl f18)), (m19, .inl (k 0, 40, .inl f19)), (m20, .inl (k 0, 120, .inl f20)), (m21, .inl (k 0, 20, .inl f21)), (m22, .inl (k 0, 600, .inl f22)), (m16, .inl (k 0, 5, .inl o_2))] := hD
  generalize H1 = H at hP hS ⊢
  clear hw
  refine lv_aload_n hx hb dX12_copyTown_10 rfl (lv_at hl 0 rfl) ?_
  refine va_get (D := D) (ci := 12) (v := .ref m17) (C := RX12) (T := TX12) (N := 42) hx hb hts iT_X12 hown hK hP 0 rfl rfl 17 (by decide) (hts _ tw_6_70) (fun _ h9 => h9) rfl dX12_copyTown_11 ?_
  refine lv_bipush (v := 6) hx hb dX12_copyTown_14 (by decide) ?_
  refine lv_iload_n hx hb dX12_copyTown_16 rfl (lv_at hl 1 rfl) ?_
  refine lv_iload_n hx hb dX12_copyTown_17 rfl (lv_at hl 2 rfl) ?_
  obtain ⟨hPc, hDc, hFc⟩ := sub3 hP hD hS hA (ws' := [(m17, .inl (k 0, 30, .inl f17))]) [1] (by decide +kernel) rfl
  refine va_callv (va_runS (As := [.ref m17, .int 6, .int p0, .int p1]) (rest := []) ⟨hx, hb, hml, hown, hts⟩ (c_X12_copyRow_1 l D k m17 p0 p1 f17 H.size (show 0 ≤ p0.toInt ∧ p0.toInt ≤ 4 from by omega) (show 0 ≤ p1.toInt ∧ p1.toInt ≤ 4 from by omega) hp_f17_0 hp_f17_1 hp_f17_2 hp_f17_3 hp_f17_4 hp_f17_5 (show ¬ p0.toInt = p1.toInt from by omega)) (va_cwS 4 hts (gS tw_7_91 tw_7_92 tw_1_13 tw_7_93) rfl rfl rfl hdS_X12_copyRow ⟨Nat.le_of_ble_eq_true rfl, Nat.le_of_ble_eq_true rfl⟩) (cz_S hK hPc hDc hN [.ref m17, .int 6, .int p0, .int p1]) rfl rfl hl.1 rfl (lv_room (Nat.le_of_ble_eq_true rfl)) dX12_copyTown_18 ⟨Nat.le_of_ble_eq_true rfl, Nat.le_of_ble_eq_true rfl⟩) hS (fun q _ h => hFc q h) hFc (fun uZ tZ H1 locs ht hvm hw hB hz1 hk1 hS => ?_)
  obtain ⟨o_5, rfl⟩ : ∃ z, z = uZ := ⟨_, rfl⟩
  obtain ⟨hP1, hK1, hD1⟩ := hB
  rw [ht] at hP1
  obtain ⟨hP, hD⟩ := va_join (wr := [(mo, .inr (12, [.int v0, .ref m1, .ref m2, .ref m3, .ref m4, .ref m5, .int v6, .int v7, .int v8, .int v9, .int v10, .long v11, .int v12, .int v13, .int v14, .int v15, .ref m16, .ref m17, .ref m18, .ref m19, .ref m20, .ref m21, .ref m22, .ref m23, .int v24, .ref m25, .ref m26, .ref m27, .ref m28, .ref m29, .int v30, .ref m31, .ref m32, .ref m33, .int v34, .int v35, .int v36, .ref m37, .ref m38, .ref m39, .ref m40, .long v41])), (m18, .inl (k 0, 250, .inl f18)), (m19, .inl (k 0, 40, .inl f19)), (m20, .inl (k 0, 120, .inl f20)), (m21, .inl (k 0, 20, .inl f21)), (m22, .inl (k 0, 600, .inl f22)), (m16, .inl (k 0, 5, .inl o_2))]) (w1 := [(m17, .inl (k 0, 30, .inl o_5))]) hP hD [1] [0, 2, 3, 4, 5, 6, 7] rfl rfl (by decide +kernel) (by decide +kernel) hk1 hFc hP1 hD1
  clear hK1 hP1 hD1 hPc hDc hFc
  clear hk1 hz1 ht hvm
  have hP : va_P D vwCl [(mo, .inr (12, [.int v0, .ref m1, .ref m2, .ref m3, .ref m4, .ref m5, .int v6, .int v7, .int v8, .int v9, .int v10, .long v11, .int v12, .int v13, .int v14, .int v15, .ref m16, .ref m17, .ref m18, .ref m19, .ref m20, .ref m21, .ref m22, .ref m23, .int v24, .ref m25, .ref m26, .ref m27, .ref m28, .ref m29, .int v30, .ref m31, .ref m32, .ref m33, .int v34, .int v35, .int v36, .ref m37, .ref m38, .ref m39, .ref m40, .long v41])), (m18, .inl (k 0, 250, .inl f18)), (m19, .inl (k 0, 40, .inl f19)), (m20, .inl (k 0, 120, .inl f20)), (m21, .inl (k 0, 20, .inl f21)), (m22, .inl (k 0, 600, .inl f22)), (m16, .inl (k 0, 5, .inl o_2)), (m17, .inl (k 0, 30, .inl o_5))] H1 := hP
  have hD : va_D A [(mo, .inr (12, [.int v0, .ref m1, .ref m2, .ref m3, .ref m4, .ref m5, .int v6, .int v7, .int v8, .int v9, .int v10, .long v11, .int v12, .int v13, .int v14, .int v15, .ref m16, .ref m17, .ref m18, .ref m19, .ref m20, .ref m21, .ref m22, .ref m23, .int v24, .ref m25, .ref m26, .ref m27, .ref m28, .ref m29, .int v30, .ref m31, .ref m32, .ref m33, .int v34, .int v35, .int v36, .ref m37, .ref m38, .ref m39, .ref m40, .long v41])), (m18, .inl (k 0, 250, .inl f18)), (m19, .inl (k 0, 40, .inl f19)), (m20, .inl (k 0, 120, .inl f20)), (m21, .inl (k 0, 20, .inl f21)), (m22, .inl (k 0, 600, .inl f22)), (m16, .inl (k 0, 5, .inl o_2)), (m17, .inl (k 0, 30, .inl o_5))] := hD
  generalize H1 = H at hP hS ⊢
  have hw_6 : (PR 30 6 0 0 8 o_5) ∧ (PR 30 6 1 0 10 o_5) ∧ (PR 30 6 2 0 4 o_5) ∧ (PR 30 6 3 0 6 o_5) ∧ (PR 30 6 4 0 2 o_5) ∧ (PR 30 6 5 0 40 o_5) ∧ (CP 6 p0.toInt p1.toInt 6 f17 o_5) := hw
  obtain ⟨hw_7, hw_8, hw_9, hw_10, hw_11, hw_12, hw_13⟩ := hw_6
  clear hw
  refine lv_aload_n hx hb dX12_copyTown_21 rfl (lv_at hl 0 rfl) ?_
  refine va_get (D := D) (ci := 12) (v := .ref m18) (C := RX12) (T := TX12) (N := 42) hx hb hts iT_X12 hown hK hP 0 rfl rfl 18 (by decide) (hts _ tw_6_71) (fun _ h9 => h9) rfl dX12_copyTown_22 ?_
  refine lv_bipush (v := 50) hx hb dX12_copyTown_25 (by decide) ?_
  refine lv_iload_n hx hb dX12_copyTown_27 rfl (lv_at hl 1 rfl) ?_
  refine lv_iload_n hx hb dX12_copyTown_28 rfl (lv_at hl 2 rfl) ?_
  obtain ⟨hPc, hDc, hFc⟩ := sub3 hP hD hS hA (ws' := [(m18, .inl (k 0, 250, .inl f18))]) [1] (by decide +kernel) rfl
  refine va_callv (va_runS (As := [.ref m18, .int 50, .int p0, .int p1]) (rest := []) ⟨hx, hb, hml, hown, hts⟩ (c_X12_copyRow_2 l D k m18 p0 p1 f18 H.size (show 0 ≤ p0.toInt ∧ p0.toInt ≤ 4 from by omega) (show 0 ≤ p1.toInt ∧ p1.toInt ≤ 4 from by omega) hp_f18_0 hp_f18_1 hp_f18_2 hp_f18_3 (show ¬ p0.toInt = p1.toInt from by omega)) (va_cwS 4 hts (gS tw_7_91 tw_7_92 tw_1_13 tw_7_93) rfl rfl rfl hdS_X12_copyRow ⟨Nat.le_of_ble_eq_true rfl, Nat.le_of_ble_eq_true rfl⟩) (cz_S hK hPc hDc hN [.ref m18, .int 50, .int p0, .int p1]) rfl rfl hl.1 rfl (lv_room (Nat.le_of_ble_eq_true rfl)) dX12_copyTown_29 ⟨Nat.le_of_ble_eq_true rfl, Nat.le_of_ble_eq_true rfl⟩) hS (fun q _ h => hFc q h) hFc (fun uZ tZ H1 locs ht hvm hw hB hz1 hk1 hS => ?_)
  obtain ⟨o_15, rfl⟩ : ∃ z, z = uZ := ⟨_, rfl⟩
  obtain ⟨hP1, hK1, hD1⟩ := hB
  rw [ht] at hP1
  obtain ⟨hP, hD⟩ := va_join (wr := [(mo, .inr (12, [.int v0, .ref m1, .ref m2, .ref m3, .ref m4, .ref m5, .int v6, .int v7, .int v8, .int v9, .int v10, .long v11, .int v12, .int v13, .int v14, .int v15, .ref m16, .ref m17, .ref m18, .ref m19, .ref m20, .ref m21, .ref m22, .ref m23, .int v24, .ref m25, .ref m26, .ref m27, .ref m28, .ref m29, .int v30, .ref m31, .ref m32, .ref m33, .int v34, .int v35, .int v36, .ref m37, .ref m38, .ref m39, .ref m40, .long v41])), (m19, .inl (k 0, 40, .inl f19)), (m20, .inl (k 0, 120, .inl f20)), (m21, .inl (k 0, 20, .inl f21)), (m22, .inl (k 0, 600, .inl f22)), (m16, .inl (k 0, 5, .inl o_2)), (m17, .inl (k 0, 30, .inl o_5))]) (w1 := [(m18, .inl (k 0, 250, .inl o_15))]) hP hD [1] [0, 2, 3, 4, 5, 6, 7] rfl rfl (by decide +kernel) (by decide +kernel) hk1 hFc hP1 hD1
  clear hK1 hP1 hD1 hPc hDc hFc
  clear hk1 hz1 ht hvm
  have hP : va_P D vwCl [(mo, .inr (12, [.int v0, .ref m1, .ref m2, .ref m3, .ref m4, .ref m5, .int v6, .int v7, .int v8, .int v9, .int v10, .long v11, .int v12, .int v13, .int v14, .int v15, .ref m16, .ref m17, .ref m18, .ref m19, .ref m20, .ref m21, .ref m22, .ref m23, .int v24, .ref m25, .ref m26, .ref m27, .ref m28, .ref m29, .int v30, .ref m31, .ref m32, .ref m33, .int v34, .int v35, .int v36, .ref m37, .ref m38, .ref m39, .ref m40, .long v41])), (m19, .inl (k 0, 40, .inl f19)), (m20, .inl (k 0, 120, .inl f20)), (m21, .inl (k 0, 20, .inl f21)), (m22, .inl (k 0, 600, .inl f22)), (m16, .inl (k 0, 5, .inl o_2)), (m17, .inl (k 0, 30, .inl o_5)), (m18, .inl (k 0, 250, .inl o_15))] H1 := hP
  have hD : va_D A [(mo, .inr (12, [.int v0, .ref m1, .ref m2, .ref m3, .ref m4, .ref m5, .int v6, .int v7, .int v8, .int v9, .int v10, .long v11, .int v12, .int v13, .int v14, .int v15, .ref m16, .ref m17, .ref m18, .ref m19, .ref m20, .ref m21, .ref m22, .ref m23, .int v24, .ref m25, .ref m26, .ref m27, .ref m28, .ref m29, .int v30, .ref m31, .ref m32, .ref m33, .int v34, .int v35, .int v36, .ref m37, .ref m38, .ref m39, .ref m40, .long v41])), (m19, .inl (k 0, 40, .inl f19)), (m20, .inl (k 0, 120, .inl f20)), (m21, .inl (k 0, 20, .inl f21)), (m22, .inl (k 0, 600, .inl f22)), (m16, .inl (k 0, 5, .inl o_2)), (m17, .inl (k 0, 30, .inl o_5)), (m18, .inl (k 0, 250, .inl o_15))] := hD
  generalize H1 = H at hP hS ⊢
  have hw_16 : (PR 250 5 0 0 7 o_15) ∧ (PR 250 5 1 0 7 o_15) ∧ (PR 250 5 2 0 60 o_15) ∧ (PR 250 5 3 0 10 o_15) ∧ (CP 50 p0.toInt p1.toInt 50 f18 o_15) := hw
  obtain ⟨hw_17, hw_18, hw_19, hw_20, hw_21⟩ := hw_16
  clear hw
  refine lv_aload_n hx hb dX12_copyTown_32 rfl (lv_at hl 0 rfl) ?_
  refine va_get (D := D) (ci := 12) (v := .ref m19) (C := RX12) (T := TX12) (N := 42) hx hb hts iT_X12 hown hK hP 0 rfl rfl 19 (by decide) (hts _ tw_6_72) (fun _ h9 => h9) rfl dX12_copyTown_33 ?_
  refine lv_bipush (v := 8) hx hb dX12_copyTown_36 (by decide) ?_
  refine lv_iload_n hx hb dX12_copyTown_38 rfl (lv_at hl 1 rfl) ?_
  refine lv_iload_n hx hb dX12_copyTown_39 rfl (lv_at hl 2 rfl) ?_
  obtain ⟨hPc, hDc, hFc⟩ := sub3 hP hD hS hA (ws' := [(m19, .inl (k 0, 40, .inl f19))]) [1] (by decide +kernel) rfl
  refine va_callv (va_runS (As := [.ref m19, .int 8, .int p0, .int p1]) (rest := []) ⟨hx, hb, hml, hown, hts⟩ (c_X12_copyRow_3 l D k m19 p0 p1 f19 H.size (show 0 ≤ p0.toInt ∧ p0.toInt ≤ 4 from by omega) (show 0 ≤ p1.toInt ∧ p1.toInt ≤ 4 from by omega) hp_f19_0 hp_f19_1) (va_cwS 4 hts (gS tw_7_91 tw_7_92 tw_1_13 tw_7_93) rfl rfl rfl hdS_X12_copyRow ⟨Nat.le_of_ble_eq_true rfl, Nat.le_of_ble_eq_true rfl⟩) (cz_S hK hPc hDc hN [.ref m19, .int 8, .int p0, .int p1]) rfl rfl hl.1 rfl (lv_room (Nat.le_of_ble_eq_true rfl)) dX12_copyTown_40 ⟨Nat.le_of_ble_eq_true rfl, Nat.le_of_ble_eq_true rfl⟩) hS (fun q _ h => hFc q h) hFc (fun uZ tZ H1 locs ht hvm hw hB hz1 hk1 hS => ?_)
  obtain ⟨o_23, rfl⟩ : ∃ z, z = uZ := ⟨_, rfl⟩
  obtain ⟨hP1, hK1, hD1⟩ := hB
  rw [ht] at hP1
  obtain ⟨hP, hD⟩ := va_join (wr := [(mo, .inr (12, [.int v0, .ref m1, .ref m2, .ref m3, .ref m4, .ref m5, .int v6, .int v7, .int v8, .int v9, .int v10, .long v11, .int v12, .int v13, .int v14, .int v15, .ref m16, .ref m17, .ref m18, .ref m19, .ref m20, .ref m21, .ref m22, .ref m23, .int v24, .ref m25, .ref m26, .ref m27, .ref m28, .ref m29, .int v30, .ref m31, .ref m32, .ref m33, .int v34, .int v35, .int v36, .ref m37, .ref m38, .ref m39, .ref m40, .long v41])), (m20, .inl (k 0, 120, .inl f20)), (m21, .inl (k 0, 20, .inl f21)), (m22, .inl (k 0, 600, .inl f22)), (m16, .inl (k 0, 5, .inl o_2)), (m17, .inl (k 0, 30, .inl o_5)), (m18, .inl (k 0, 250, .inl o_15))]) (w1 := [(m19, .inl (k 0, 40, .inl o_23))]) hP hD [1] [0, 2, 3, 4, 5, 6, 7] rfl rfl (by decide +kernel) (by decide +kernel) hk1 hFc hP1 hD1
  clear hK1 hP1 hD1 hPc hDc hFc
  clear hk1 hz1 ht hvm
  have hP : va_P D vwCl [(mo, .inr (12, [.int v0, .ref m1, .ref m2, .ref m3, .ref m4, .ref m5, .int v6, .int v7, .int v8, .int v9, .int v10, .long v11, .int v12, .int v13, .int v14, .int v15, .ref m16, .ref m17, .ref m18, .ref m19, .ref m20, .ref m21, .ref m22, .ref m23, .int v24, .ref m25, .ref m26, .ref m27, .ref m28, .ref m29, .int v30, .ref m31, .ref m32, .ref m33, .int v34, .int v35, .int v36, .ref m37, .ref m38, .ref m39, .ref m40, .long v41])), (m20, .inl (k 0, 120, .inl f20)), (m21, .inl (k 0, 20, .inl f21)), (m22, .inl (k 0, 600, .inl f22)), (m16, .inl (k 0, 5, .inl o_2)), (m17, .inl (k 0, 30, .inl o_5)), (m18, .inl (k 0, 250, .inl o_15)), (m19, .inl (k 0, 40, .inl o_23))] H1 := hP
  have hD : va_D A [(mo, .inr (12, [.int v0, .ref m1, .ref m2, .ref m3, .ref m4, .ref m5, .int v6, .int v7, .int v8, .int v9, .int v10, .long v11, .int v12, .int v13, .int v14, .int v15, .ref m16, .ref m17, .ref m18, .ref m19, .ref m20, .ref m21, .ref m22, .ref m23, .int v24, .ref m25, .ref m26, .ref m27, .ref m28, .ref m29, .int v30, .ref m31, .ref m32, .ref m33, .int v34, .int v35, .int v36, .ref m37, .ref m38, .ref m39, .ref m40, .long v41])), (m20, .inl (k 0, 120, .inl f20)), (m21, .inl (k 0, 20, .inl f21)), (m22, .inl (k 0, 600, .inl f22)), (m16, .inl (k 0, 5, .inl o_2)), (m17, .inl (k 0, 30, .inl o_5)), (m18, .inl (k 0, 250, .inl o_15)), (m19, .inl (k 0, 40, .inl o_23))] := hD
  generalize H1 = H at hP hS ⊢
  have hw_24 : (PR 40 2 0 0 7 o_23) ∧ (PR 40 2 1 0 99 o_23) := hw
  obtain ⟨hw_25, hw_26⟩ := hw_24
  clear hw
  refine lv_aload_n hx hb dX12_copyTown_43 rfl (lv_at hl 0 rfl) ?_
  refine va_get (D := D) (ci := 12) (v := .ref m20) (C := RX12) (T := TX12) (N := 42) hx hb hts iT_X12 hown hK hP 0 rfl rfl 20 (by decide) (hts _ tw_6_73) (fun _ h9 => h9) rfl dX12_copyTown_44 ?_
  refine lv_bipush (v := 24) hx hb dX12_copyTown_47 (by decide) ?_
  refine lv_iload_n hx hb dX12_copyTown_49 rfl (lv_at hl 1 rfl) ?_
  refine lv_iload_n hx hb dX12_copyTown_50 rfl (lv_at hl 2 rfl) ?_
  obtain ⟨hPc, hDc, hFc⟩ := sub3 hP hD hS hA (ws' := [(m20, .inl (k 0, 120, .inl f20))]) [1] (by decide +kernel) rfl
  refine va_callv (va_runS (As := [.ref m20, .int 24, .int p0, .int p1]) (rest := []) ⟨hx, hb, hml, hown, hts⟩ (c_X12_copyRow_4 l D k m20 p0 p1 f20 H.size (show 0 ≤ p0.toInt ∧ p0.toInt ≤ 4 from by omega) (show 0 ≤ p1.toInt ∧ p1.toInt ≤ 4 from by omega) hp_f20_0) (va_cwS 4 hts (gS tw_7_91 tw_7_92 tw_1_13 tw_7_93) rfl rfl rfl hdS_X12_copyRow ⟨Nat.le_of_ble_eq_true rfl, Nat.le_of_ble_eq_true rfl⟩) (cz_S hK hPc hDc hN [.ref m20, .int 24, .int p0, .int p1]) rfl rfl hl.1 rfl (lv_room (Nat.le_of_ble_eq_true rfl)) dX12_copyTown_51 ⟨Nat.le_of_ble_eq_true rfl, Nat.le_of_ble_eq_true rfl⟩) hS (fun q _ h => hFc q h) hFc (fun uZ tZ H1 locs ht hvm hw hB hz1 hk1 hS => ?_)
  obtain ⟨o_28, rfl⟩ : ∃ z, z = uZ := ⟨_, rfl⟩
  obtain ⟨hP1, hK1, hD1⟩ := hB
  rw [ht] at hP1
  obtain ⟨hP, hD⟩ := va_join (wr := [(mo, .inr (12, [.int v0, .ref m1, .ref m2, .ref m3, .ref m4, .ref m5, .int v6, .int v7, .int v8, .int v9, .int v10, .long v11, .int v12, .int v13, .int v14, .int v15, .ref m16, .ref m17, .ref m18, .ref m19, .ref m20, .ref m21, .ref m22, .ref m23, .int v24, .ref m25, .ref m26, .ref m27, .ref m28, .ref m29, .int v30, .ref m31, .ref m32, .ref m33, .int v34, .int v35, .int v36, .ref m37, .ref m38, .ref m39, .ref m40, .long v41])), (m21, .inl (k 0, 20, .inl f21)), (m22, .inl (k 0, 600, .inl f22)), (m16, .inl (k 0, 5, .inl o_2)), (m17, .inl (k 0, 30, .inl o_5)), (m18, .inl (k 0, 250, .inl o_15)), (m19, .inl (k 0, 40, .inl o_23))]) (w1 := [(m20, .inl (k 0, 120, .inl o_28))]) hP hD [1] [0, 2, 3, 4, 5, 6, 7] rfl rfl (by decide +kernel) (by decide +kernel) hk1 hFc hP1 hD1
  clear hK1 hP1 hD1 hPc hDc hFc
  clear hk1 hz1 ht hvm
  have hP : va_P D vwCl [(mo, .inr (12, [.int v0, .ref m1, .ref m2, .ref m3, .ref m4, .ref m5, .int v6, .int v7, .int v8, .int v9, .int v10, .long v11, .int v12, .int v13, .int v14, .int v15, .ref m16, .ref m17, .ref m18, .ref m19, .ref m20, .ref m21, .ref m22, .ref m23, .int v24, .ref m25, .ref m26, .ref m27, .ref m28, .ref m29, .int v30, .ref m31, .ref m32, .ref m33, .int v34, .int v35, .int v36, .ref m37, .ref m38, .ref m39, .ref m40, .long v41])), (m21, .inl (k 0, 20, .inl f21)), (m22, .inl (k 0, 600, .inl f22)), (m16, .inl (k 0, 5, .inl o_2)), (m17, .inl (k 0, 30, .inl o_5)), (m18, .inl (k 0, 250, .inl o_15)), (m19, .inl (k 0, 40, .inl o_23)), (m20, .inl (k 0, 120, .inl o_28))] H1 := hP
  have hD : va_D A [(mo, .inr (12, [.int v0, .ref m1, .ref m2, .ref m3, .ref m4, .ref m5, .int v6, .int v7, .int v8, .int v9, .int v10, .long v11, .int v12, .int v13, .int v14, .int v15, .ref m16, .ref m17, .ref m18, .ref m19, .ref m20, .ref m21, .ref m22, .ref m23, .int v24, .ref m25, .ref m26, .ref m27, .ref m28, .ref m29, .int v30, .ref m31, .ref m32, .ref m33, .int v34, .int v35, .int v36, .ref m37, .ref m38, .ref m39, .ref m40, .long v41])), (m21, .inl (k 0, 20, .inl f21)), (m22, .inl (k 0, 600, .inl f22)), (m16, .inl (k 0, 5, .inl o_2)), (m17, .inl (k 0, 30, .inl o_5)), (m18, .inl (k 0, 250, .inl o_15)), (m19, .inl (k 0, 40, .inl o_23)), (m20, .inl (k 0, 120, .inl o_28))] := hD
  generalize H1 = H at hP hS ⊢
  have hw_29 : (PR 120 4 0 0 7 o_28) := hw
  have hw_30 := hw_29
  clear hw
  refine lv_aload_n hx hb dX12_copyTown_54 rfl (lv_at hl 0 rfl) ?_
  refine va_get (D := D) (ci := 12) (v := .ref m21) (C := RX12) (T := TX12) (N := 42) hx hb hts iT_X12 hown hK hP 0 rfl rfl 21 (by decide) (hts _ tw_6_74) (fun _ h9 => h9) rfl dX12_copyTown_55 ?_
  refine lv_iconst (v := 4) hx hb dX12_copyTown_58 (by decide) ?_
  refine lv_iload_n hx hb dX12_copyTown_59 rfl (lv_at hl 1 rfl) ?_
  refine lv_iload_n hx hb dX12_copyTown_60 rfl (lv_at hl 2 rfl) ?_
  obtain ⟨hPc, hDc, hFc⟩ := sub3 hP hD hS hA (ws' := [(m21, .inl (k 0, 20, .inl f21))]) [1] (by decide +kernel) rfl
  refine va_callv (va_runS (As := [.ref m21, .int 4, .int p0, .int p1]) (rest := []) ⟨hx, hb, hml, hown, hts⟩ (c_X12_copyRow_5 l D k m21 p0 p1 f21 H.size (show 0 ≤ p0.toInt ∧ p0.toInt ≤ 4 from by omega) (show 0 ≤ p1.toInt ∧ p1.toInt ≤ 4 from by omega) hp_f21_0 hp_f21_1) (va_cwS 4 hts (gS tw_7_91 tw_7_92 tw_1_13 tw_7_93) rfl rfl rfl hdS_X12_copyRow ⟨Nat.le_of_ble_eq_true rfl, Nat.le_of_ble_eq_true rfl⟩) (cz_S hK hPc hDc hN [.ref m21, .int 4, .int p0, .int p1]) rfl rfl hl.1 rfl (lv_room (Nat.le_of_ble_eq_true rfl)) dX12_copyTown_61 ⟨Nat.le_of_ble_eq_true rfl, Nat.le_of_ble_eq_true rfl⟩) hS (fun q _ h => hFc q h) hFc (fun uZ tZ H1 locs ht hvm hw hB hz1 hk1 hS => ?_)
  obtain ⟨o_32, rfl⟩ : ∃ z, z = uZ := ⟨_, rfl⟩
  obtain ⟨hP1, hK1, hD1⟩ := hB
  rw [ht] at hP1
  obtain ⟨hP, hD⟩ := va_join (wr := [(mo, .inr (12, [.int v0, .ref m1, .ref m2, .ref m3, .ref m4, .ref m5, .int v6, .int v7, .int v8, .int v9, .int v10, .long v11, .int v12, .int v13, .int v14, .int v15, .ref m16, .ref m17, .ref m18, .ref m19, .ref m20, .ref m21, .ref m22, .ref m23, .int v24, .ref m25, .ref m26, .ref m27, .ref m28, .ref m29, .int v30, .ref m31, .ref m32, .ref m33, .int v34, .int v35, .int v36, .ref m37, .ref m38, .ref m39, .ref m40, .long v41])), (m22, .inl (k 0, 600, .inl f22)), (m16, .inl (k 0, 5, .inl o_2)), (m17, .inl (k 0, 30, .inl o_5)), (m18, .inl (k 0, 250, .inl o_15)), (m19, .inl (k 0, 40, .inl o_23)), (m20, .inl (k 0, 120, .inl o_28))]) (w1 := [(m21, .inl (k 0, 20, .inl o_32))]) hP hD [1] [0, 2, 3, 4, 5, 6, 7] rfl rfl (by decide +kernel) (by decide +kernel) hk1 hFc hP1 hD1
  clear hK1 hP1 hD1 hPc hDc hFc
  clear hk1 hz1 ht hvm
  have hP : va_P D vwCl [(mo, .inr (12, [.int v0, .ref m1, .ref m2, .ref m3, .ref m4, .ref m5, .int v6, .int v7, .int v8, .int v9, .int v10, .long v11, .int v12, .int v13, .int v14, .int v15, .ref m16, .ref m17, .ref m18, .ref m19, .ref m20, .ref m21, .ref m22, .ref m23, .int v24, .ref m25, .ref m26, .ref m27, .ref m28, .ref m29, .int v30, .ref m31, .ref m32, .ref m33, .int v34, .int v35, .int v36, .ref m37, .ref m38, .ref m39, .ref m40, .long v41])), (m22, .inl (k 0, 600, .inl f22)), (m16, .inl (k 0, 5, .inl o_2)), (m17, .inl (k 0, 30, .inl o_5)), (m18, .inl (k 0, 250, .inl o_15)), (m19, .inl (k 0, 40, .inl o_23)), (m20, .inl (k 0, 120, .inl o_28)), (m21, .inl (k 0, 20, .inl o_32))] H1 := hP
  have hD : va_D A [(mo, .inr (12, [.int v0, .ref m1, .ref m2, .ref m3, .ref m4, .ref m5, .int v6, .int v7, .int v8, .int v9, .int v10, .long v11, .int v12, .int v13, .int v14, .int v15, .ref m16, .ref m17, .ref m18, .ref m19, .ref m20, .ref m21, .ref m22, .ref m23, .int v24, .ref m25, .ref m26, .ref m27, .ref m28, .ref m29, .int v30, .ref m31, .ref m32, .ref m33, .int v34, .int v35, .int v36, .ref m37, .ref m38, .ref m39, .ref m40, .long v41])), (m22, .inl (k 0, 600, .inl f22)), (m16, .inl (k 0, 5, .inl o_2)), (m17, .inl (k 0, 30, .inl o_5)), (m18, .inl (k 0, 250, .inl o_15)), (m19, .inl (k 0, 40, .inl o_23)), (m20, .inl (k 0, 120, .inl o_28)), (m21, .inl (k 0, 20, .inl o_32))] := hD
  generalize H1 = H at hP hS ⊢
  have hw_33 : (PR 20 2 0 0 7 o_32) ∧ (PR 20 2 1 0 999 o_32) := hw
  obtain ⟨hw_34, hw_35⟩ := hw_33
  clear hw
  refine lv_aload_n hx hb dX12_copyTown_64 rfl (lv_at hl 0 rfl) ?_
  refine va_get (D := D) (ci := 12) (v := .ref m22) (C := RX12) (T := TX12) (N := 42) hx hb hts iT_X12 hown hK hP 0 rfl rfl 22 (by decide) (hts _ tw_6_75) (fun _ h9 => h9) rfl dX12_copyTown_65 ?_
  refine lv_bipush (v := 120) hx hb dX12_copyTown_68 (by decide) ?_
  refine lv_iload_n hx hb dX12_copyTown_70 rfl (lv_at hl 1 rfl) ?_
  refine lv_iload_n hx hb dX12_copyTown_71 rfl (lv_at hl 2 rfl) ?_
  obtain ⟨hPc, hDc, hFc⟩ := sub3 hP hD hS hA (ws' := [(m22, .inl (k 0, 600, .inl f22))]) [1] (by decide +kernel) rfl
  refine va_callv (va_runS (As := [.ref m22, .int 120, .int p0, .int p1]) (rest := []) ⟨hx, hb, hml, hown, hts⟩ (c_X12_copyRow_6 l D k m22 p0 p1 f22 H.size (show 0 ≤ p0.toInt ∧ p0.toInt ≤ 4 from by omega) (show 0 ≤ p1.toInt ∧ p1.toInt ≤ 4 from by omega) hp_f22_0 hp_f22_1 hp_f22_2 (show ¬ p0.toInt = p1.toInt from by omega)) (va_cwS 4 hts (gS tw_7_91 tw_7_92 tw_1_13 tw_7_93) rfl rfl rfl hdS_X12_copyRow ⟨Nat.le_of_ble_eq_true rfl, Nat.le_of_ble_eq_true rfl⟩) (cz_S hK hPc hDc hN [.ref m22, .int 120, .int p0, .int p1]) rfl rfl hl.1 rfl (lv_room (Nat.le_of_ble_eq_true rfl)) dX12_copyTown_72 ⟨Nat.le_of_ble_eq_true rfl, Nat.le_of_ble_eq_true rfl⟩) hS (fun q _ h => hFc q h) hFc (fun uZ tZ H1 locs ht hvm hw hB hz1 hk1 hS => ?_)
  obtain ⟨o_37, rfl⟩ : ∃ z, z = uZ := ⟨_, rfl⟩
  obtain ⟨hP1, hK1, hD1⟩ := hB
  rw [ht] at hP1
  obtain ⟨hP, hD⟩ := va_join (wr := [(mo, .inr (12, [.int v0, .ref m1, .ref m2, .ref m3, .ref m4, .ref m5, .int v6, .int v7, .int v8, .int v9, .int v10, .long v11, .int v12, .int v13, .int v14, .int v15, .ref m16, .ref m17, .ref m18, .ref m19, .ref m20, .ref m21, .ref m22, .ref m23, .int v24, .ref m25, .ref m26, .ref m27, .ref m28, .ref m29, .int v30, .ref m31, .ref m32, .ref m33, .int v34, .int v35, .int v36, .ref m37, .ref m38, .ref m39, .ref m40, .long v41])), (m16, .inl (k 0, 5, .inl o_2)), (m17, .inl (k 0, 30, .inl o_5)), (m18, .inl (k 0, 250, .inl o_15)), (m19, .inl (k 0, 40, .inl o_23)), (m20, .inl (k 0, 120, .inl o_28)), (m21, .inl (k 0, 20, .inl o_32))]) (w1 := [(m22, .inl (k 0, 600, .inl o_37))]) hP hD [1] [0, 2, 3, 4, 5, 6, 7] rfl rfl (by decide +kernel) (by decide +kernel) hk1 hFc hP1 hD1
  clear hK1 hP1 hD1 hPc hDc hFc
  clear hk1 hz1 ht hvm
  have hP : va_P D vwCl [(mo, .inr (12, [.int v0, .ref m1, .ref m2, .ref m3, .ref m4, .ref m5, .int v6, .int v7, .int v8, .int v9, .int v10, .long v11, .int v12, .int v13, .int v14, .int v15, .ref m16, .ref m17, .ref m18, .ref m19, .ref m20, .ref m21, .ref m22, .ref m23, .int v24, .ref m25, .ref m26, .ref m27, .ref m28, .ref m29, .int v30, .ref m31, .ref m32, .ref m33, .int v34, .int v35, .int v36, .ref m37, .ref m38, .ref m39, .ref m40, .long v41])), (m16, .inl (k 0, 5, .inl o_2)), (m17, .inl (k 0, 30, .inl o_5)), (m18, .inl (k 0, 250, .inl o_15)), (m19, .inl (k 0, 40, .inl o_23)), (m20, .inl (k 0, 120, .inl o_28)), (m21, .inl (k 0, 20, .inl o_32)), (m22, .inl (k 0, 600, .inl o_37))] H1 := hP
  have hD : va_D A [(mo, .inr (12, [.int v0, .ref m1, .ref m2, .ref m3, .ref m4, .ref m5, .int v6, .int v7, .int v8, .int v9, .int v10, .long v11, .int v12, .int v13, .int v14, .int v15, .ref m16, .ref m17, .ref m18, .ref m19, .ref m20, .ref m21, .ref m22, .ref m23, .int v24, .ref m25, .ref m26, .ref m27, .ref m28, .ref m29, .int v30, .ref m31, .ref m32, .ref m33, .int v34, .int v35, .int v36, .ref m37, .ref m38, .ref m39, .ref m40, .long v41])), (m16, .inl (k 0, 5, .inl o_2)), (m17, .inl (k 0, 30, .inl o_5)), (m18, .inl (k 0, 250, .inl o_15)), (m19, .inl (k 0, 40, .inl o_23)), (m20, .inl (k 0, 120, .inl o_28)), (m21, .inl (k 0, 20, .inl o_32)), (m22, .inl (k 0, 600, .inl o_37))] := hD
  generalize H1 = H at hP hS ⊢
  have hw_38 : (PR 600 3 1 0 9 o_37) ∧ (PR 600 3 2 0 99 o_37) ∧ (AK o_37) := hw
  obtain ⟨hw_39, hw_40, hw_41⟩ := hw_38
  clear hw
  obtain ⟨hP9, hD9⟩ := sub2 hP hD (ws' := [(mo, .inr (12, [.int v0, .ref m1, .ref m2, .ref m3, .ref m4, .ref m5, .int v6, .int v7, .int v8, .int v9, .int v10, .long v11, .int v12, .int v13, .int v14, .int v15, .ref m16, .ref m17, .ref m18, .ref m19, .ref m20, .ref m21, .ref m22, .ref m23, .int v24, .ref m25, .ref m26, .ref m27, .ref m28, .ref m29, .int v30, .ref m31, .ref m32, .ref m33, .int v34, .int v35, .int v36, .ref m37, .ref m38, .ref m39, .ref m40, .long v41])), (m16, .inl (k 0, 5, .inl o_2)), (m17, .inl (k 0, 30, .inl o_5)), (m18, .inl (k 0, 250, .inl o_15)), (m19, .inl (k 0, 40, .inl o_23)), (m20, .inl (k 0, 120, .inl o_28)), (m21, .inl (k 0, 20, .inl o_32)), (m22, .inl (k 0, 600, .inl o_37))]) [0, 1, 2, 3, 4, 5, 6, 7] (by decide +kernel) rfl
  exact W.vret hx hb hr (fun tZ ht hW => ⟨⟨(o_2, o_5, o_15, o_23, o_28, o_32, o_37), rfl, ⟨hw_7, hw_8, hw_9, hw_10, hw_11, hw_12, hw_17, hw_18, hw_19, hw_20, hw_25, hw_26, hw_30, hw_34, hw_35, hw_39, hw_40, hw_41, (TK.cp hTK hw_13 hw_21 (by omega) (by omega) (by omega) (by omega))⟩, by rw [ht]; exact hP9, va_K.moved hW.alike hK, hD9⟩, hS.F ht⟩) hS.2.2 dX12_copyTown_75
