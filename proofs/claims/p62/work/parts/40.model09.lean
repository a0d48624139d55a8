set_option maxHeartbeats 4000000 in
set_option maxRecDepth 100000 in
theorem c_X12_clerk (l : Launch) (D : va_G) (k : Nat → ClassId) (mo : Nat) (v0 : Int32) (m1 : Nat) (m2 : Nat) (m3 : Nat) (m4 : Nat) (m5 : Nat) (v6 : Int32) (v7 : Int32) (v8 : Int32) (v9 : Int32) (v10 : Int32) (v11 : Int64) (v12 : Int32) (v13 : Int32) (v14 : Int32) (v15 : Int32) (m16 : Nat) (m17 : Nat) (m18 : Nat) (m19 : Nat) (m20 : Nat) (m21 : Nat) (m22 : Nat) (m23 : Nat) (v24 : Int32) (m25 : Nat) (m26 : Nat) (m27 : Nat) (m28 : Nat) (m29 : Nat) (v30 : Int32) (m31 : Nat) (m32 : Nat) (m33 : Nat) (v34 : Int32) (v35 : Int32) (v36 : Int32) (m37 : Nat) (m38 : Nat) (m39 : Nat) (m40 : Nat) (v41 : Int64) (f16 : Nat → Int32) (f17 : Nat → Int32) (f18 : Nat → Int32) (f19 : Nat → Int32) (f20 : Nat → Int32) (f22 : Nat → Int32) (f25 : Nat → Int32) (f26 : Nat → Int32) (f39 : Nat → Int32) (sz : Nat) (h_v6 : 0 ≤ v6.toInt ∧ v6.toInt ≤ 1000) (h_v24 : 0 ≤ v24.toInt ∧ v24.toInt ≤ 1023) (hp_f17_0 : PR 30 6 0 0 8 f17) (hp_f17_1 : PR 30 6 1 0 10 f17) (hp_f17_2 : PR 30 6 2 0 4 f17) (hp_f17_3 : PR 30 6 3 0 6 f17) (hp_f17_4 : PR 30 6 4 0 2 f17) (hp_f17_5 : PR 30 6 5 0 40 f17) (hp_f18_0 : PR 250 5 0 0 7 f18) (hp_f18_1 : PR 250 5 1 0 7 f18) (hp_f18_2 : PR 250 5 2 0 60 f18) (hp_f18_3 : PR 250 5 3 0 10 f18) (hp_f19_0 : PR 40 2 0 0 7 f19) (hp_f19_1 : PR 40 2 1 0 99 f19) (hp_f20_0 : PR 120 4 0 0 7 f20) (hp_f22_0 : PR 600 3 1 0 9 f22) (hp_f22_1 : PR 600 3 2 0 99 f22) (hp_f22_2 : AK f22) (hp_f25_0 : PR 4 1 0 0 99 f25) (hp_f26_0 : PR 8 1 0 0 100000 f26) : Met l yX12_clerk (ww yX12_clerk cX12_clerk 3 (some .int)) ({ frames := 6, cells := 0, slots := 0, locals := 135 }) (Pre0 D k [(mo, .inr (12, [.int v0, .ref m1, .ref m2, .ref m3, .ref m4, .ref m5, .int v6, .int v7, .int v8, .int v9, .int v10, .long v11, .int v12, .int v13, .int v14, .int v15, .ref m16, .ref m17, .ref m18, .ref m19, .ref m20, .ref m21, .ref m22, .ref m23, .int v24, .ref m25, .ref m26, .ref m27, .ref m28, .ref m29, .int v30, .ref m31, .ref m32, .ref m33, .int v34, .int v35, .int v36, .ref m37, .ref m38, .ref m39, .ref m40, .long v41])), (m16, .inl (k 0, 5, .inl f16)), (m17, .inl (k 0, 30, .inl f17)), (m18, .inl (k 0, 250, .inl f18)), (m19, .inl (k 0, 40, .inl f19)), (m20, .inl (k 0, 120, .inl f20)), (m22, .inl (k 0, 600, .inl f22)), (m25, .inl (k 0, 4, .inl f25)), (m26, .inl (k 0, 8, .inl f26)), (m39, .inl (k 0, 44, .inl f39))] sz [.ref mo]) (va_Qi (fun (r : Int32) (u : Int32 × Int32 × (Nat → Int32) × (Nat → Int32) × (Nat → Int32)) => match u with | (v0z, v24z, f25z, f26z, f39z) => ((-2) ≤ r.toInt ∧ r.toInt ≤ 3) ∧ (0 ≤ v0z.toInt ∧ v0z.toInt ≤ 0) ∧ (0 ≤ v24z.toInt ∧ v24z.toInt ≤ 1023) ∧ (PR 4 1 0 0 99 f25z) ∧ (PR 8 1 0 0 100000 f26z)) (fun (u : Int32 × Int32 × (Nat → Int32) × (Nat → Int32) × (Nat → Int32)) tZ => match u with | (v0z, v24z, f25z, f26z, f39z) => Bw D k (va_A [(mo, .inr (12, [.int v0, .ref m1, .ref m2, .ref m3, .ref m4, .ref m5, .int v6, .int v7, .int v8, .int v9, .int v10, .long v11, .int v12, .int v13, .int v14, .int v15, .ref m16, .ref m17, .ref m18, .ref m19, .ref m20, .ref m21, .ref m22, .ref m23, .int v24, .ref m25, .ref m26, .ref m27, .ref m28, .ref m29, .int v30, .ref m31, .ref m32, .ref m33, .int v34, .int v35, .int v36, .ref m37, .ref m38, .ref m39, .ref m40, .long v41])), (m16, .inl (k 0, 5, .inl f16)), (m17, .inl (k 0, 30, .inl f17)), (m18, .inl (k 0, 250, .inl f18)), (m19, .inl (k 0, 40, .inl f19)), (m20, .inl (k 0, 120, .inl f20)), (m22, .inl (k 0, 600, .inl f22)), (m25, .inl (k 0, 4, .inl f25)), (m26, .inl (k 0, 8, .inl f26)), (m39, .inl (k 0, 44, .inl f39))] sz) [(mo, .inr (12, [.int v0z, .ref m1, .ref m2, .ref m3, .ref m4, .ref m5, .int v6, .int v7, .int v8, .int v9, .int v10, .long v11, .int v12, .int v13, .int v14, .int v15, .ref m16, .ref m17, .ref m18, .ref m19, .ref m20, .ref m21, .ref m22, .ref m23, .int v24z, .ref m25, .ref m26, .ref m27, .ref m28, .ref m29, .int v30, .ref m31, .ref m32, .ref m33, .int v34, .int v35, .int v36, .ref m37, .ref m38, .ref m39, .ref m40, .long v41])), (m16, .inl (k 0, 5, .inl f16)), (m17, .inl (k 0, 30, .inl f17)), (m18, .inl (k 0, 250, .inl f18)), (m19, .inl (k 0, 40, .inl f19)), (m20, .inl (k 0, 120, .inl f20)), (m22, .inl (k 0, 600, .inl f22)), (m25, .inl (k 0, 4, .inl f25z)), (m26, .inl (k 0, 8, .inl f26z)), (m39, .inl (k 0, 44, .inl f39z))] tZ) (va_A [(mo, .inr (12, [.int v0, .ref m1, .ref m2, .ref m3, .ref m4, .ref m5, .int v6, .int v7, .int v8, .int v9, .int v10, .long v11, .int v12, .int v13, .int v14, .int v15, .ref m16, .ref m17, .ref m18, .ref m19, .ref m20, .ref m21, .ref m22, .ref m23, .int v24, .ref m25, .ref m26, .ref m27, .ref m28, .ref m29, .int v30, .ref m31, .ref m32, .ref m33, .int v34, .int v35, .int v36, .ref m37, .ref m38, .ref m39, .ref m40, .long v41])), (m16, .inl (k 0, 5, .inl f16)), (m17, .inl (k 0, 30, .inl f17)), (m18, .inl (k 0, 250, .inl f18)), (m19, .inl (k 0, 40, .inl f19)), (m20, .inl (k 0, 120, .inl f20)), (m22, .inl (k 0, 600, .inl f22)), (m25, .inl (k 0, 4, .inl f25)), (m26, .inl (k 0, 8, .inl f26)), (m39, .inl (k 0, 44, .inl f39))] sz)) 0 0 (va_A [(mo, .inr (12, [.int v0, .ref m1, .ref m2, .ref m3, .ref m4, .ref m5, .int v6, .int v7, .int v8, .int v9, .int v10, .long v11, .int v12, .int v13, .int v14, .int v15, .ref m16, .ref m17, .ref m18, .ref m19, .ref m20, .ref m21, .ref m22, .ref m23, .int v24, .ref m25, .ref m26, .ref m27, .ref m28, .ref m29, .int v30, .ref m31, .ref m32, .ref m33, .int v34, .int v35, .int v36, .ref m37, .ref m38, .ref m39, .ref m40, .long v41])), (m16, .inl (k 0, 5, .inl f16)), (m17, .inl (k 0, 30, .inl f17)), (m18, .inl (k 0, 250, .inl f18)), (m19, .inl (k 0, 40, .inl f19)), (m20, .inl (k 0, 120, .inl f20)), (m22, .inl (k 0, 600, .inl f22)), (m25, .inl (k 0, 4, .inl f25)), (m26, .inl (k 0, 8, .inl f26)), (m39, .inl (k 0, 44, .inl f39))] sz) := by
  refine Met.ofW (cc := cX12_clerk) (maxL := 3) (ret := (some .int)) (by decide +kernel) rfl ?_
  intro p e s m args below meth c s₁ B hml hv
  obtain ⟨rfl, hsz, hP, hK, hD0, hN⟩ := hv
  have hx := B.exec
  have hb := B.bytes
  have hr := B.returns
  have hts : ∀ w ∈ TT, w.before _ s = true := fun w h => atoms_spec (ws := ww yX12_clerk cX12_clerk 3 (some .int)) B.pre w (List.mem_cons_of_mem _ h)
  have hown : s.vm.findClass RX12 = some m.cls := findClass_of_methodNamed B.named
  have hlocks := B.notSynchronized
  subst hsz
  have hD := hD0.self (sz := s.heap.size)
  generalize hAe : va_A [(mo, .inr (12, [.int v0, .ref m1, .ref m2, .ref m3, .ref m4, .ref m5, .int v6, .int v7, .int v8, .int v9, .int v10, .long v11, .int v12, .int v13, .int v14, .int v15, .ref m16, .ref m17, .ref m18, .ref m19, .ref m20, .ref m21, .ref m22, .ref m23, .int v24, .ref m25, .ref m26, .ref m27, .ref m28, .ref m29, .int v30, .ref m31, .ref m32, .ref m33, .int v34, .int v35, .int v36, .ref m37, .ref m38, .ref m39, .ref m40, .long v41])), (m16, .inl (k 0, 5, .inl f16)), (m17, .inl (k 0, 30, .inl f17)), (m18, .inl (k 0, 250, .inl f18)), (m19, .inl (k 0, 40, .inl f19)), (m20, .inl (k 0, 120, .inl f20)), (m22, .inl (k 0, 600, .inl f22)), (m25, .inl (k 0, 4, .inl f25)), (m26, .inl (k 0, 8, .inl f26)), (m39, .inl (k 0, 44, .inl f39))] s.heap.size = A at hD ⊢
  have hA : ∀ q : Nat, s.heap.size ≤ q → A q := fun q h => by rw [← hAe]; exact Or.inr h
  have hS : va_S A s.heap s.heap [] := va_S.rf
  have hl := lv_entry ([.ref mo]) (n := 3) (Nat.le_of_ble_eq_true rfl)
  rw [lg_entry_eq]
  generalize (lg_sl ([.ref mo]) ++ List.replicate (3 - (lg_sl ([.ref mo])).length) Slot.unset).toArray = ls at hl ⊢
  have hl : lv_has ls 3 [(0, .ref mo)] := hl
  refine lv_aload_n hx hb dX12_clerk_0 rfl (lv_at hl 0 rfl) ?_
  refine lv_iconst (v := 0) hx hb dX12_clerk_1 (by decide) ?_
  refine va_put (D := D) (ci := 12) (v := .int 0) (ty := tyX12 0) (C := RX12) (T := TX12) (N := 42) hx hb hts iT_X12 tyX12 tyX12_ok nmX12 hown hK hP hD hS 0 rfl rfl 0 (by decide) (hts _ tw_6_53) (fun _ h9 => h9) rfl (tyX12_ok 0 (by decide)) rfl rfl (Nat.le_of_ble_eq_true rfl) dX12_clerk_2 (fun H locs hP hD hS => ?_)
  have hP : va_P D vwCl [(mo, .inr (12, [.int 0, .ref m1, .ref m2, .ref m3, .ref m4, .ref m5, .int v6, .int v7, .int v8, .int v9, .int v10, .long v11, .int v12, .int v13, .int v14, .int v15, .ref m16, .ref m17, .ref m18, .ref m19, .ref m20, .ref m21, .ref m22, .ref m23, .int v24, .ref m25, .ref m26, .ref m27, .ref m28, .ref m29, .int v30, .ref m31, .ref m32, .ref m33, .int v34, .int v35, .int v36, .ref m37, .ref m38, .ref m39, .ref m40, .long v41])), (m16, .inl (k 0, 5, .inl f16)), (m17, .inl (k 0, 30, .inl f17)), (m18, .inl (k 0, 250, .inl f18)), (m19, .inl (k 0, 40, .inl f19)), (m20, .inl (k 0, 120, .inl f20)), (m22, .inl (k 0, 600, .inl f22)), (m25, .inl (k 0, 4, .inl f25)), (m26, .inl (k 0, 8, .inl f26)), (m39, .inl (k 0, 44, .inl f39))] H := hP
  have hD : va_D A [(mo, .inr (12, [.int 0, .ref m1, .ref m2, .ref m3, .ref m4, .ref m5, .int v6, .int v7, .int v8, .int v9, .int v10, .long v11, .int v12, .int v13, .int v14, .int v15, .ref m16, .ref m17, .ref m18, .ref m19, .ref m20, .ref m21, .ref m22, .ref m23, .int v24, .ref m25, .ref m26, .ref m27, .ref m28, .ref m29, .int v30, .ref m31, .ref m32, .ref m33, .int v34, .int v35, .int v36, .ref m37, .ref m38, .ref m39, .ref m40, .long v41])), (m16, .inl (k 0, 5, .inl f16)), (m17, .inl (k 0, 30, .inl f17)), (m18, .inl (k 0, 250, .inl f18)), (m19, .inl (k 0, 40, .inl f19)), (m20, .inl (k 0, 120, .inl f20)), (m22, .inl (k 0, 600, .inl f22)), (m25, .inl (k 0, 4, .inl f25)), (m26, .inl (k 0, 8, .inl f26)), (m39, .inl (k 0, 44, .inl f39))] := hD
  refine lv_aload_n hx hb dX12_clerk_5 rfl (lv_at hl 0 rfl) ?_
  obtain ⟨hPc, hDc, hFc⟩ := sub3 hP hD hS hA (ws' := [(mo, .inr (12, [.int 0, .ref m1, .ref m2, .ref m3, .ref m4, .ref m5, .int v6, .int v7, .int v8, .int v9, .int v10, .long v11, .int v12, .int v13, .int v14, .int v15, .ref m16, .ref m17, .ref m18, .ref m19, .ref m20, .ref m21, .ref m22, .ref m23, .int v24, .ref m25, .ref m26, .ref m27, .ref m28, .ref m29, .int v30, .ref m31, .ref m32, .ref m33, .int v34, .int v35, .int v36, .ref m37, .ref m38, .ref m39, .ref m40, .long v41])), (m16, .inl (k 0, 5, .inl f16))]) [0, 1] (by decide +kernel) rfl
  refine va_calli (va_runV (C := RX12) (As := []) (rest := []) ⟨hx, hb, hml, hown, hts⟩ (c_X12_isTown l D k mo 0 m1 m2 m3 m4 m5 v6 v7 v8 v9 v10 v11 v12 v13 v14 v15 m16 m17 m18 m19 m20 m21 m22 m23 v24 m25 m26 m27 m28 m29 v30 m31 m32 m33 v34 v35 v36 m37 m38 m39 m40 v41 f16 H.size (show 0 ≤ v6.toInt ∧ v6.toInt ≤ 1000 from by omega) (show 0 ≤ v24.toInt ∧ v24.toInt ≤ 1023 from by omega)) (cwV 0 hts (gV tw_7_181 tw_7_183 tw_p_71 tw_1_13 tw_7_184) rfl rfl rfl hdV_X12_isTown ⟨Nat.le_of_ble_eq_true rfl, Nat.le_of_ble_eq_true rfl⟩) (cz_V hK hPc hDc hN (ci := 12) (q0 := 0) rfl rfl []) rfl rfl hl.1 rfl (lv_room (Nat.le_of_ble_eq_true rfl)) dX12_clerk_6 ⟨Nat.le_of_ble_eq_true rfl, Nat.le_of_ble_eq_true rfl⟩) hS (fun q _ h => hFc q h) hFc (fun r_1 uZ tZ H1 locs ht hvm hw hB hz1 hk1 hS => ?_)
  obtain ⟨hP1, hK1, hD1⟩ := hB
  rw [ht] at hP1
  obtain ⟨hP, hD⟩ := va_join (wr := [(m17, .inl (k 0, 30, .inl f17)), (m18, .inl (k 0, 250, .inl f18)), (m19, .inl (k 0, 40, .inl f19)), (m20, .inl (k 0, 120, .inl f20)), (m22, .inl (k 0, 600, .inl f22)), (m25, .inl (k 0, 4, .inl f25)), (m26, .inl (k 0, 8, .inl f26)), (m39, .inl (k 0, 44, .inl f39))]) (w1 := [(mo, .inr (12, [.int 0, .ref m1, .ref m2, .ref m3, .ref m4, .ref m5, .int v6, .int v7, .int v8, .int v9, .int v10, .long v11, .int v12, .int v13, .int v14, .int v15, .ref m16, .ref m17, .ref m18, .ref m19, .ref m20, .ref m21, .ref m22, .ref m23, .int v24, .ref m25, .ref m26, .ref m27, .ref m28, .ref m29, .int v30, .ref m31, .ref m32, .ref m33, .int v34, .int v35, .int v36, .ref m37, .ref m38, .ref m39, .ref m40, .long v41])), (m16, .inl (k 0, 5, .inl f16))]) hP hD [0, 1] [2, 3, 4, 5, 6, 7, 8, 9] rfl rfl (by decide +kernel) (by decide +kernel) hk1 hFc hP1 hD1
  clear hK1 hP1 hD1 hPc hDc hFc
  clear hk1 hz1 ht hvm
  have hP : va_P D vwCl [(m17, .inl (k 0, 30, .inl f17)), (m18, .inl (k 0, 250, .inl f18)), (m19, .inl (k 0, 40, .inl f19)), (m20, .inl (k 0, 120, .inl f20)), (m22, .inl (k 0, 600, .inl f22)), (m25, .inl (k 0, 4, .inl f25)), (m26, .inl (k 0, 8, .inl f26)), (m39, .inl (k 0, 44, .inl f39)), (mo, .inr (12, [.int 0, .ref m1, .ref m2, .ref m3, .ref m4, .ref m5, .int v6, .int v7, .int v8, .int v9, .int v10, .long v11, .int v12, .int v13, .int v14, .int v15, .ref m16, .ref m17, .ref m18, .ref m19, .ref m20, .ref m21, .ref m22, .ref m23, .int v24, .ref m25, .ref m26, .ref m27, .ref m28, .ref m29, .int v30, .ref m31, .ref m32, .ref m33, .int v34, .int v35, .int v36, .ref m37, .ref m38, .ref m39, .ref m40, .long v41])), (m16, .inl (k 0, 5, .inl f16))] H1 := hP
  have hD : va_D A [(m17, .inl (k 0, 30, .inl f17)), (m18, .inl (k 0, 250, .inl f18)), (m19, .inl (k 0, 40, .inl f19)), (m20, .inl (k 0, 120, .inl f20)), (m22, .inl (k 0, 600, .inl f22)), (m25, .inl (k 0, 4, .inl f25)), (m26, .inl (k 0, 8, .inl f26)), (m39, .inl (k 0, 44, .inl f39)), (mo, .inr (12, [.int 0, .ref m1, .ref m2, .ref m3, .ref m4, .ref m5, .int v6, .int v7, .int v8, .int v9, .int v10, .long v11, .int v12, .int v13, .int v14, .int v15, .ref m16, .ref m17, .ref m18, .ref m19, .ref m20, .ref m21, .ref m22, .ref m23, .int v24, .ref m25, .ref m26, .ref m27, .ref m28, .ref m29, .int v30, .ref m31, .ref m32, .ref m33, .int v34, .int v35, .int v36, .ref m37, .ref m38, .ref m39, .ref m40, .long v41])), (m16, .inl (k 0, 5, .inl f16))] := hD
  generalize H1 = H at hP hS ⊢
  have hw_2 : (0 ≤ r_1.toInt ∧ r_1.toInt ≤ 1) := hw
  have hw_3 := hw_2
  clear hw
  refine lv_if_ne (tgt := 15) hx hb dX12_clerk_9 (by decide) (fun h_4 => ?_) (fun h_4 => ?_)
  · skip
    have zh_4 : ¬ r_1.toInt = 0 := z_ne h_4
    refine lv_aload_n hx hb dX12_clerk_15 rfl (lv_at hl 0 rfl) ?_
    obtain ⟨hPc, hDc, hFc⟩ := sub3 hP hD hS hA (ws' := [(mo, .inr (12, [.int 0, .ref m1, .ref m2, .ref m3, .ref m4, .ref m5, .int v6, .int v7, .int v8, .int v9, .int v10, .long v11, .int v12, .int v13, .int v14, .int v15, .ref m16, .ref m17, .ref m18, .ref m19, .ref m20, .ref m21, .ref m22, .ref m23, .int v24, .ref m25, .ref m26, .ref m27, .ref m28, .ref m29, .int v30, .ref m31, .ref m32, .ref m33, .int v34, .int v35, .int v36, .ref m37, .ref m38, .ref m39, .ref m40, .long v41])), (m17, .inl (k 0, 30, .inl f17)), (m18, .inl (k 0, 250, .inl f18)), (m19, .inl (k 0, 40, .inl f19)), (m20, .inl (k 0, 120, .inl f20)), (m22, .inl (k 0, 600, .inl f22)), (m25, .inl (k 0, 4, .inl f25)), (m26, .inl (k 0, 8, .inl f26)), (m39, .inl (k 0, 44, .inl f39))]) [8, 0, 1, 2, 3, 4, 5, 6, 7] (by decide +kernel) rfl
    refine va_callv (va_runV (C := RX12) (As := []) (rest := []) ⟨hx, hb, hml, hown, hts⟩ (c_X12_laysGame l D k mo 0 m1 m2 m3 m4 m5 v6 v7 v8 v9 v10 v11 v12 v13 v14 v15 m16 m17 m18 m19 m20 m21 m22 m23 v24 m25 m26 m27 m28 m29 v30 m31 m32 m33 v34 v35 v36 m37 m38 m39 m40 v41 f17 f18 f19 f20 f22 f25 f26 f39 H.size (show 0 ≤ v6.toInt ∧ v6.toInt ≤ 1000 from by omega) (show 0 ≤ v24.toInt ∧ v24.toInt ≤ 1023 from by omega) hp_f17_0 hp_f17_1 hp_f17_2 hp_f17_3 hp_f17_4 hp_f17_5 hp_f18_0 hp_f18_1 hp_f18_2 hp_f18_3 hp_f19_0 hp_f19_1 hp_f20_0 hp_f22_0 hp_f22_1 hp_f22_2 hp_f25_0 hp_f26_0) (cwV 0 hts (gV tw_8_170 tw_8_172 tw_p_92 tw_1_13 tw_8_173) rfl rfl rfl hdV_X12_laysGame ⟨Nat.le_of_ble_eq_true rfl, Nat.le_of_ble_eq_true rfl⟩) (cz_V hK hPc hDc hN (ci := 12) (q0 := 0) rfl rfl []) rfl rfl hl.1 rfl (lv_room (Nat.le_of_ble_eq_true rfl)) dX12_clerk_16 ⟨Nat.le_of_ble_eq_true rfl, Nat.le_of_ble_eq_true rfl⟩) hS (fun q _ h => hFc q h) hFc (fun uZ tZ H1 locs ht hvm hw hB hz1 hk1 hS => ?_)
    obtain ⟨o_6, o_7, o_8, o_9⟩ := uZ
    obtain ⟨hP1, hK1, hD1⟩ := hB
    rw [ht] at hP1
    obtain ⟨hP, hD⟩ := va_join (wr := [(m16, .inl (k 0, 5, .inl f16))]) (w1 := [(mo, .inr (12, [.int 0, .ref m1, .ref m2, .ref m3, .ref m4, .ref m5, .int v6, .int v7, .int v8, .int v9, .int v10, .long v11, .int v12, .int v13, .int v14, .int v15, .ref m16, .ref m17, .ref m18, .ref m19, .ref m20, .ref m21, .ref m22, .ref m23, .int o_6, .ref m25, .ref m26, .ref m27, .ref m28, .ref m29, .int v30, .ref m31, .ref m32, .ref m33, .int v34, .int v35, .int v36, .ref m37, .ref m38, .ref m39, .ref m40, .long v41])), (m17, .inl (k 0, 30, .inl f17)), (m18, .inl (k 0, 250, .inl f18)), (m19, .inl (k 0, 40, .inl f19)), (m20, .inl (k 0, 120, .inl f20)), (m22, .inl (k 0, 600, .inl f22)), (m25, .inl (k 0, 4, .inl o_7)), (m26, .inl (k 0, 8, .inl o_8)), (m39, .inl (k 0, 44, .inl o_9))]) hP hD [8, 0, 1, 2, 3, 4, 5, 6, 7] [9] rfl rfl (by decide +kernel) (by decide +kernel) hk1 hFc hP1 hD1
    clear hK1 hP1 hD1 hPc hDc hFc
    clear hk1 hz1 ht hvm
    have hP : va_P D vwCl [(m16, .inl (k 0, 5, .inl f16)), (mo, .inr (12, [.int 0, .ref m1, .ref m2, .ref m3, .ref m4, .ref m5, .int v6, .int v7, .int v8, .int v9, .int v10, .long v11, .int v12, .int v13, .int v14, .int v15, .ref m16, .ref m17, .ref m18, .ref m19, .ref m20, .ref m21, .ref m22, .ref m23, .int o_6, .ref m25, .ref m26, .ref m27, .ref m28, .ref m29, .int v30, .ref m31, .ref m32, .ref m33, .int v34, .int v35, .int v36, .ref m37, .ref m38, .ref m39, .ref m40, .long v41])), (m17, .inl (k 0, 30, .inl f17)), (m18, .inl (k 0, 250, .inl f18)), (m19, .inl (k 0, 40, .inl f19)), (m20, .inl (k 0, 120, .inl f20)), (m22, .inl (k 0, 600, .inl f22)), (m25, .inl (k 0, 4, .inl o_7)), (m26, .inl (k 0, 8, .inl o_8)), (m39, .inl (k 0, 44, .inl o_9))] H1 := hP
    have hD : va_D A [(m16, .inl (k 0, 5, .inl f16)), (mo, .inr (12, [.int 0, .ref m1, .ref m2, .ref m3, .ref m4, .ref m5, .int v6, .int v7, .int v8, .int v9, .int v10, .long v11, .int v12, .int v13, .int v14, .int v15, .ref m16, .ref m17, .ref m18, .ref m19, .ref m20, .ref m21, .ref m22, .ref m23, .int o_6, .ref m25, .ref m26, .ref m27, .ref m28, .ref m29, .int v30, .ref m31, .ref m32, .ref m33, .int v34, .int v35, .int v36, .ref m37, .ref m38, .ref m39, .ref m40, .long v41])), (m17, .inl (k 0, 30, .inl f17)), (m18, .inl (k 0, 250, .inl f18)), (m19, .inl (k 0, 40, .inl f19)), (m20, .inl (k 0, 120, .inl f20)), (m22, .inl (k 0, 600, .inl f22)), (m25, .inl (k 0, 4, .inl o_7)), (m26, .inl (k 0, 8, .inl o_8)), (m39, .inl (k 0, 44, .inl o_9))] := hD
    generalize H1 = H at hP hS ⊢
    have hw_10 : (0 ≤ o_6.toInt ∧ o_6.toInt ≤ 1023) ∧ (PR 4 1 0 0 99 o_7) ∧ (PR 8 1 0 0 100000 o_8) := hw
    obtain ⟨hw_11, hw_12, hw_13⟩ := hw_10
    clear hw
    refine lv_iconst (v := (-1)) hx hb dX12_clerk_19 (by decide) ?_
    refine lv_istore_n (lv' := [(1, .int (-1)), (0, .ref mo)]) hx hb dX12_clerk_20 rfl hl (by decide) rfl (fun ls hl => ?_)
    refine lv_iconst (v := 0) hx hb dX12_clerk_21 (by decide) ?_
    refine lv_istore_n (lv' := [(2, .int 0), (1, .int (-1)), (0, .ref mo)]) hx hb dX12_clerk_22 rfl hl (by decide) rfl (fun ls hl => ?_)
    refine loop_r (Wg := fun H locs ls => W p l e _ s m _ below meth c H locs _ _ _ (F0 m 23 ls [])) (fun n9 H locs ls => ∃ (L23l1 : Int32) (L23l2 : Int32), n9 = (4 - L23l2.toInt).toNat ∧ ((-1) ≤ L23l1.toInt ∧ L23l1.toInt ≤ 3) ∧ (0 ≤ L23l2.toInt ∧ L23l2.toInt ≤ 4) ∧ va_P D vwCl [(m16, .inl (k 0, 5, .inl f16)), (mo, .inr (12, [.int 0, .ref m1, .ref m2, .ref m3, .ref m4, .ref m5, .int v6, .int v7, .int v8, .int v9, .int v10, .long v11, .int v12, .int v13, .int v14, .int v15, .ref m16, .ref m17, .ref m18, .ref m19, .ref m20, .ref m21, .ref m22, .ref m23, .int o_6, .ref m25, .ref m26, .ref m27, .ref m28, .ref m29, .int v30, .ref m31, .ref m32, .ref m33, .int v34, .int v35, .int v36, .ref m37, .ref m38, .ref m39, .ref m40, .long v41])), (m17, .inl (k 0, 30, .inl f17)), (m18, .inl (k 0, 250, .inl f18)), (m19, .inl (k 0, 40, .inl f19)), (m20, .inl (k 0, 120, .inl f20)), (m22, .inl (k 0, 600, .inl f22)), (m25, .inl (k 0, 4, .inl o_7)), (m26, .inl (k 0, 8, .inl o_8)), (m39, .inl (k 0, 44, .inl o_9))] H ∧ va_D A [(m16, .inl (k 0, 5, .inl f16)), (mo, .inr (12, [.int 0, .ref m1, .ref m2, .ref m3, .ref m4, .ref m5, .int v6, .int v7, .int v8, .int v9, .int v10, .long v11, .int v12, .int v13, .int v14, .int v15, .ref m16, .ref m17, .ref m18, .ref m19, .ref m20, .ref m21, .ref m22, .ref m23, .int o_6, .ref m25, .ref m26, .ref m27, .ref m28, .ref m29, .int v30, .ref m31, .ref m32, .ref m33, .int v34, .int v35, .int v36, .ref m37, .ref m38, .ref m39, .ref m40, .long v41])), (m17, .inl (k 0, 30, .inl f17)), (m18, .inl (k 0, 250, .inl f18)), (m19, .inl (k 0, 40, .inl f19)), (m20, .inl (k 0, 120, .inl f20)), (m22, .inl (k 0, 600, .inl f22)), (m25, .inl (k 0, 4, .inl o_7)), (m26, .inl (k 0, 8, .inl o_8)), (m39, .inl (k 0, 44, .inl o_9))] ∧ va_S A s.heap H locs ∧ lv_has ls 3 [(0, .ref mo), (1, .int L23l1), (2, .int L23l2)]) (fun n9 H locs ls hI ih_14 => ?_) _ _ _ _ ⟨(-1), 0, rfl, (show (-1) ≤ (-1) ∧ (-1) ≤ 3 from by omega), (show 0 ≤ 0 ∧ 0 ≤ 4 from by omega), hP.sub (ws' := [(m16, .inl (k 0, 5, .inl f16)), (mo, .inr (12, [.int 0, .ref m1, .ref m2, .ref m3, .ref m4, .ref m5, .int v6, .int v7, .int v8, .int v9, .int v10, .long v11, .int v12, .int v13, .int v14, .int v15, .ref m16, .ref m17, .ref m18, .ref m19, .ref m20, .ref m21, .ref m22, .ref m23, .int o_6, .ref m25, .ref m26, .ref m27, .ref m28, .ref m29, .int v30, .ref m31, .ref m32, .ref m33, .int v34, .int v35, .int v36, .ref m37, .ref m38, .ref m39, .ref m40, .long v41])), (m17, .inl (k 0, 30, .inl f17)), (m18, .inl (k 0, 250, .inl f18)), (m19, .inl (k 0, 40, .inl f19)), (m20, .inl (k 0, 120, .inl f20)), (m22, .inl (k 0, 600, .inl f22)), (m25, .inl (k 0, 4, .inl o_7)), (m26, .inl (k 0, 8, .inl o_8)), (m39, .inl (k 0, 44, .inl o_9))]) [0, 1, 2, 3, 4, 5, 6, 7, 8, 9] rfl, hD.sub (ws' := [(m16, .inl (k 0, 5, .inl f16)), (mo, .inr (12, [.int 0, .ref m1, .ref m2, .ref m3, .ref m4, .ref m5, .int v6, .int v7, .int v8, .int v9, .int v10, .long v11, .int v12, .int v13, .int v14, .int v15, .ref m16, .ref m17, .ref m18, .ref m19, .ref m20, .ref m21, .ref m22, .ref m23, .int o_6, .ref m25, .ref m26, .ref m27, .ref m28, .ref m29, .int v30, .ref m31, .ref m32, .ref m33, .int v34, .int v35, .int v36, .ref m37, .ref m38, .ref m39, .ref m40, .long v41])), (m17, .inl (k 0, 30, .inl f17)), (m18, .inl (k 0, 250, .inl f18)), (m19, .inl (k 0, 40, .inl f19)), (m20, .inl (k 0, 120, .inl f20)), (m22, .inl (k 0, 600, .inl f22)), (m25, .inl (k 0, 4, .inl o_7)), (m26, .inl (k 0, 8, .inl o_8)), (m39, .inl (k 0, 44, .inl o_9))]) [0, 1, 2, 3, 4, 5, 6, 7, 8, 9] (by decide +kernel) rfl, hS, lv_sub hl [2, 1, 0] rfl⟩
    clear hP hD hS hl
    obtain ⟨L23l1, L23l2, en_15, zL23l1, zL23l2, hP, hD, hS, hl⟩ := hI
    refine lv_iload_n hx hb dX12_clerk_23 rfl (lv_at hl 2 rfl) ?_
    refine lv_aload_n hx hb dX12_clerk_24 rfl (lv_at hl 0 rfl) ?_
    refine va_get (D := D) (ci := 12) (v := .ref m17) (C := RX12) (T := TX12) (N := 42) hx hb hts iT_X12 hown hK hP 1 rfl rfl 17 (by decide) (hts _ tw_6_70) (fun _ h9 => h9) rfl dX12_clerk_25 ?_
    refine lv_iconst (v := 2) hx hb dX12_clerk_28 (by decide) ?_
    refine va_iald hx hb hK hP 2 0 rfl rfl (z_in (by decide) (by decide)) dX12_clerk_29 ?_
    refine lv_topi (fun x_16 ex_16 => ?_)
    have zx_16r2 : 0 ≤ x_16.toInt ∧ x_16.toInt ≤ 4 := by rw [ex_16]; exact PR.ld hp_f17_2 (by decide) (by decide) (by decide)
    refine lv_icmp_ge (tgt := 59) hx hb dX12_clerk_30 (by decide) (fun h_17 => ?_) (fun h_17 => ?_)
    · skip
      have zh_17 : x_16.toInt ≤ L23l2.toInt := z_le h_17
      refine lv_iload_n hx hb dX12_clerk_59 rfl (lv_at hl 1 rfl) ?_
      obtain ⟨hP9, hD9⟩ := sub2 hP hD (ws' := [(mo, .inr (12, [.int 0, .ref m1, .ref m2, .ref m3, .ref m4, .ref m5, .int v6, .int v7, .int v8, .int v9, .int v10, .long v11, .int v12, .int v13, .int v14, .int v15, .ref m16, .ref m17, .ref m18, .ref m19, .ref m20, .ref m21, .ref m22, .ref m23, .int o_6, .ref m25, .ref m26, .ref m27, .ref m28, .ref m29, .int v30, .ref m31, .ref m32, .ref m33, .int v34, .int v35, .int v36, .ref m37, .ref m38, .ref m39, .ref m40, .long v41])), (m16, .inl (k 0, 5, .inl f16)), (m17, .inl (k 0, 30, .inl f17)), (m18, .inl (k 0, 250, .inl f18)), (m19, .inl (k 0, 40, .inl f19)), (m20, .inl (k 0, 120, .inl f20)), (m22, .inl (k 0, 600, .inl f22)), (m25, .inl (k 0, 4, .inl o_7)), (m26, .inl (k 0, 8, .inl o_8)), (m39, .inl (k 0, 44, .inl o_9))]) [1, 0, 2, 3, 4, 5, 6, 7, 8, 9] (by decide +kernel) rfl
      exact W.iret (v := L23l1) hx hb hr (fun tZ ht hW => ⟨⟨L23l1, (0, o_6, o_7, o_8, o_9), rfl, ⟨(show (-2) ≤ L23l1.toInt ∧ L23l1.toInt ≤ 3 from by omega), (show 0 ≤ 0 ∧ 0 ≤ 0 from by omega), (show 0 ≤ o_6.toInt ∧ o_6.toInt ≤ 1023 from by omega), hw_12, hw_13⟩, by rw [ht]; exact hP9, va_K.moved hW.alike hK, hD9⟩, hS.F ht⟩) hS.2.2 dX12_clerk_60
    · skip
      have zh_17 : L23l2.toInt < x_16.toInt := z_nle h_17
      refine lv_iload_n hx hb dX12_clerk_33 rfl (lv_at hl 1 rfl) ?_
      refine lv_iconst (v := (-1)) hx hb dX12_clerk_34 (by decide) ?_
      refine lv_icmp_eq (tgt := 51) hx hb dX12_clerk_35 (by decide) (fun h_18 => ?_) (fun h_18 => ?_)
      · skip
        have zh_18 : L23l1.toInt = (-1) := z_eq h_18
        refine lv_iload_n hx hb dX12_clerk_51 rfl (lv_at hl 2 rfl) ?_
        refine lv_istore_n (lv' := [(1, .int L23l2), (0, .ref mo), (2, .int L23l2)]) hx hb dX12_clerk_52 rfl hl (by decide) rfl (fun ls hl => ?_)
        obtain ⟨x_19, ex_19⟩ : ∃ y : Int32, y = L23l2 + 1 := ⟨_, rfl⟩
        have zx_19 : x_19.toInt = L23l2.toInt + 1 := by rw [ex_19]; exact z_add rfl rfl (by omega) (by omega)
        refine lv_iinc (v := x_19) (lv' := [(2, .int x_19), (1, .int L23l2), (0, .ref mo)]) hx hb dX12_clerk_53 hl (k := 2) rfl (by rw [ex_19]; rfl) (by decide) rfl (fun ls hl => ?_)
        refine lv_goto (tgt := 23) hx hb dX12_clerk_56 (by decide) ?_
        exact ih_14 _ _ _ _ (by omega) ⟨L23l2, x_19, rfl, (show (-1) ≤ L23l2.toInt ∧ L23l2.toInt ≤ 3 from by omega), (show 0 ≤ x_19.toInt ∧ x_19.toInt ≤ 4 from by omega), hP.sub (ws' := [(m16, .inl (k 0, 5, .inl f16)), (mo, .inr (12, [.int 0, .ref m1, .ref m2, .ref m3, .ref m4, .ref m5, .int v6, .int v7, .int v8, .int v9, .int v10, .long v11, .int v12, .int v13, .int v14, .int v15, .ref m16, .ref m17, .ref m18, .ref m19, .ref m20, .ref m21, .ref m22, .ref m23, .int o_6, .ref m25, .ref m26, .ref m27, .ref m28, .ref m29, .int v30, .ref m31, .ref m32, .ref m33, .int v34, .int v35, .int v36, .ref m37, .ref m38, .ref m39, .ref m40, .long v41])), (m17, .inl (k 0, 30, .inl f17)), (m18, .inl (k 0, 250, .inl f18)), (m19, .inl (k 0, 40, .inl f19)), (m20, .inl (k 0, 120, .inl f20)), (m22, .inl (k 0, 600, .inl f22)), (m25, .inl (k 0, 4, .inl o_7)), (m26, .inl (k 0, 8, .inl o_8)), (m39, .inl (k 0, 44, .inl o_9))]) [0, 1, 2, 3, 4, 5, 6, 7, 8, 9] rfl, hD.sub (ws' := [(m16, .inl (k 0, 5, .inl f16)), (mo, .inr (12, [.int 0, .ref m1, .ref m2, .ref m3, .ref m4, .ref m5, .int v6, .int v7, .int v8, .int v9, .int v10, .long v11, .int v12, .int v13, .int v14, .int v15, .ref m16, .ref m17, .ref m18, .ref m19, .ref m20, .ref m21, .ref m22, .ref m23, .int o_6, .ref m25, .ref m26, .ref m27, .ref m28, .ref m29, .int v30, .ref m31, .ref m32, .ref m33, .int v34, .int v35, .int v36, .ref m37, .ref m38, .ref m39, .ref m40, .long v41])), (m17, .inl (k 0, 30, .inl f17)), (m18, .inl (k 0, 250, .inl f18)), (m19, .inl (k 0, 40, .inl f19)), (m20, .inl (k 0, 120, .inl f20)), (m22, .inl (k 0, 600, .inl f22)), (m25, .inl (k 0, 4, .inl o_7)), (m26, .inl (k 0, 8, .inl o_8)), (m39, .inl (k 0, 44, .inl o_9))]) [0, 1, 2, 3, 4, 5, 6, 7, 8, 9] (by decide +kernel) rfl, hS, lv_sub hl [2, 1, 0] rfl⟩
      · skip
        have zh_18 : ¬ L23l1.toInt = (-1) := z_ne h_18
        refine lv_aload_n hx hb dX12_clerk_38 rfl (lv_at hl 0 rfl) ?_
        refine lv_iload_n hx hb dX12_clerk_39 rfl (lv_at hl 2 rfl) ?_
        obtain ⟨hPc, hDc, hFc⟩ := sub3 hP hD hS hA (ws' := [(mo, .inr (12, [.int 0, .ref m1, .ref m2, .ref m3, .ref m4, .ref m5, .int v6, .int v7, .int v8, .int v9, .int v10, .long v11, .int v12, .int v13, .int v14, .int v15, .ref m16, .ref m17, .ref m18, .ref m19, .ref m20, .ref m21, .ref m22, .ref m23, .int o_6, .ref m25, .ref m26, .ref m27, .ref m28, .ref m29, .int v30, .ref m31, .ref m32, .ref m33, .int v34, .int v35, .int v36, .ref m37, .ref m38, .ref m39, .ref m40, .long v41])), (m17, .inl (k 0, 30, .inl f17)), (m39, .inl (k 0, 44, .inl o_9))]) [1, 2, 9] (by decide +kernel) rfl
        refine va_calli (va_runV (C := RX12) (As := [.int L23l2]) (rest := []) ⟨hx, hb, hml, hown, hts⟩ (c_X12_townHas l D k mo L23l2 0 m1 m2 m3 m4 m5 v6 v7 v8 v9 v10 v11 v12 v13 v14 v15 m16 m17 m18 m19 m20 m21 m22 m23 o_6 m25 m26 m27 m28 m29 v30 m31 m32 m33 v34 v35 v36 m37 m38 m39 m40 v41 f17 o_9 H.size (show 0 ≤ L23l2.toInt ∧ L23l2.toInt ≤ 3 from by omega) (show 0 ≤ v6.toInt ∧ v6.toInt ≤ 1000 from by omega) (show 0 ≤ o_6.toInt ∧ o_6.toInt ≤ 1023 from by omega) hp_f17_0 hp_f17_1 hp_f17_2 hp_f17_3 hp_f17_4 hp_f17_5) (cwV 1 hts (gV tw_8_178 tw_8_180 tw_p_93 tw_1_13 tw_8_181) rfl rfl rfl hdV_X12_townHas ⟨Nat.le_of_ble_eq_true rfl, Nat.le_of_ble_eq_true rfl⟩) (cz_V hK hPc hDc hN (ci := 12) (q0 := 0) rfl rfl [.int L23l2]) rfl rfl hl.1 rfl (lv_room (Nat.le_of_ble_eq_true rfl)) dX12_clerk_40 ⟨Nat.le_of_ble_eq_true rfl, Nat.le_of_ble_eq_true rfl⟩) hS (fun q _ h => hFc q h) hFc (fun r_20 uZ tZ H1 locs ht hvm hw hB hz1 hk1 hS => ?_)
        obtain ⟨hP1, hK1, hD1⟩ := hB
        rw [ht] at hP1
        obtain ⟨hP, hD⟩ := va_join (wr := [(m16, .inl (k 0, 5, .inl f16)), (m18, .inl (k 0, 250, .inl f18)), (m19, .inl (k 0, 40, .inl f19)), (m20, .inl (k 0, 120, .inl f20)), (m22, .inl (k 0, 600, .inl f22)), (m25, .inl (k 0, 4, .inl o_7)), (m26, .inl (k 0, 8, .inl o_8))]) (w1 := [(mo, .inr (12, [.int 0, .ref m1, .ref m2, .ref m3, .ref m4, .ref m5, .int v6, .int v7, .int v8, .int v9, .int v10, .long v11, .int v12, .int v13, .int v14, .int v15, .ref m16, .ref m17, .ref m18, .ref m19, .ref m20, .ref m21, .ref m22, .ref m23, .int o_6, .ref m25, .ref m26, .ref m27, .ref m28, .ref m29, .int v30, .ref m31, .ref m32, .ref m33, .int v34, .int v35, .int v36, .ref m37, .ref m38, .ref m39, .ref m40, .long v41])), (m17, .inl (k 0, 30, .inl f17)), (m39, .inl (k 0, 44, .inl o_9))]) hP hD [1, 2, 9] [0, 3, 4, 5, 6, 7, 8] rfl rfl (by decide +kernel) (by decide +kernel) hk1 hFc hP1 hD1
        clear hK1 hP1 hD1 hPc hDc hFc
        clear hk1 hz1 ht hvm
        have hP : va_P D vwCl [(m16, .inl (k 0, 5, .inl f16)), (m18, .inl (k 0, 250, .inl f18)), (m19, .inl (k 0, 40, .inl f19)), (m20, .inl (k 0, 120, .inl f20)), (m22, .inl (k 0, 600, .inl f22)), (m25, .inl (k 0, 4, .inl o_7)), (m26, .inl (k 0, 8, .inl o_8)), (mo, .inr (12, [.int 0, .ref m1, .ref m2, .ref m3, .ref m4, .ref m5, .int v6, .int v7, .int v8, .int v9, .int v10, .long v11, .int v12, .int v13, .int v14, .int v15, .ref m16, .ref m17, .ref m18, .ref m19, .ref m20, .ref m21, .ref m22, .ref m23, .int o_6, .ref m25, .ref m26, .ref m27, .ref m28, .ref m29, .int v30, .ref m31, .ref m32, .ref m33, .int v34, .int v35, .int v36, .ref m37, .ref m38, .ref m39, .ref m40, .long v41])), (m17, .inl (k 0, 30, .inl f17)), (m39, .inl (k 0, 44, .inl o_9))] H1 := hP
        have hD : va_D A [(m16, .inl (k 0, 5, .inl f16)), (m18, .inl (k 0, 250, .inl f18)), (m19, .inl (k 0, 40, .inl f19)), (m20, .inl (k 0, 120, .inl f20)), (m22, .inl (k 0, 600, .inl f22)), (m25, .inl (k 0, 4, .inl o_7)), (m26, .inl (k 0, 8, .inl o_8)), (mo, .inr (12, [.int 0, .ref m1, .ref m2, .ref m3, .ref m4, .ref m5, .int v6, .int v7, .int v8, .int v9, .int v10, .long v11, .int v12, .int v13, .int v14, .int v15, .ref m16, .ref m17, .ref m18, .ref m19, .ref m20, .ref m21, .ref m22, .ref m23, .int o_6, .ref m25, .ref m26, .ref m27, .ref m28, .ref m29, .int v30, .ref m31, .ref m32, .ref m33, .int v34, .int v35, .int v36, .ref m37, .ref m38, .ref m39, .ref m40, .long v41])), (m17, .inl (k 0, 30, .inl f17)), (m39, .inl (k 0, 44, .inl o_9))] := hD
        generalize H1 = H at hP hS ⊢
        clear hw
        refine lv_aload_n hx hb dX12_clerk_43 rfl (lv_at hl 0 rfl) ?_
        refine lv_iload_n hx hb dX12_clerk_44 rfl (lv_at hl 1 rfl) ?_
        obtain ⟨hPc, hDc, hFc⟩ := sub3 hP hD hS hA (ws' := [(mo, .inr (12, [.int 0, .ref m1, .ref m2, .ref m3, .ref m4, .ref m5, .int v6, .int v7, .int v8, .int v9, .int v10, .long v11, .int v12, .int v13, .int v14, .int v15, .ref m16, .ref m17, .ref m18, .ref m19, .ref m20, .ref m21, .ref m22, .ref m23, .int o_6, .ref m25, .ref m26, .ref m27, .ref m28, .ref m29, .int v30, .ref m31, .ref m32, .ref m33, .int v34, .int v35, .int v36, .ref m37, .ref m38, .ref m39, .ref m40, .long v41])), (m17, .inl (k 0, 30, .inl f17)), (m39, .inl (k 0, 44, .inl o_9))]) [7, 8, 9] (by decide +kernel) rfl
        refine va_calli (va_runV (C := RX12) (As := [.int L23l1]) (rest := [.int r_20]) ⟨hx, hb, hml, hown, hts⟩ (c_X12_townHas l D k mo L23l1 0 m1 m2 m3 m4 m5 v6 v7 v8 v9 v10 v11 v12 v13 v14 v15 m16 m17 m18 m19 m20 m21 m22 m23 o_6 m25 m26 m27 m28 m29 v30 m31 m32 m33 v34 v35 v36 m37 m38 m39 m40 v41 f17 o_9 H.size (show 0 ≤ L23l1.toInt ∧ L23l1.toInt ≤ 3 from by omega) (show 0 ≤ v6.toInt ∧ v6.toInt ≤ 1000 from by omega) (show 0 ≤ o_6.toInt ∧ o_6.toInt ≤ 1023 from by omega) hp_f17_0 hp_f17_1 hp_f17_2 hp_f17_3 hp_f17_4 hp_f17_5) (cwV 1 hts (gV tw_8_178 tw_8_180 tw_p_93 tw_1_13 tw_8_181) rfl rfl rfl hdV_X12_townHas ⟨Nat.le_of_ble_eq_true rfl, Nat.le_of_ble_eq_true rfl⟩) (cz_V hK hPc hDc hN (ci := 12) (q0 := 0) rfl rfl [.int L23l1]) rfl rfl hl.1 rfl (lv_room (Nat.le_of_ble_eq_true rfl)) dX12_clerk_45 ⟨Nat.le_of_ble_eq_true rfl, Nat.le_of_ble_eq_true rfl⟩) hS (fun q _ h => hFc q h) hFc (fun r_22 uZ tZ H1 locs ht hvm hw hB hz1 hk1 hS => ?_)
        obtain ⟨hP1, hK1, hD1⟩ := hB
        rw [ht] at hP1
        obtain ⟨hP, hD⟩ := va_join (wr := [(m16, .inl (k 0, 5, .inl f16)), (m18, .inl (k 0, 250, .inl f18)), (m19, .inl (k 0, 40, .inl f19)), (m20, .inl (k 0, 120, .inl f20)), (m22, .inl (k 0, 600, .inl f22)), (m25, .inl (k 0, 4, .inl o_7)), (m26, .inl (k 0, 8, .inl o_8))]) (w1 := [(mo, .inr (12, [.int 0, .ref m1, .ref m2, .ref m3, .ref m4, .ref m5, .int v6, .int v7, .int v8, .int v9, .int v10, .long v11, .int v12, .int v13, .int v14, .int v15, .ref m16, .ref m17, .ref m18, .ref m19, .ref m20, .ref m21, .ref m22, .ref m23, .int o_6, .ref m25, .ref m26, .ref m27, .ref m28, .ref m29, .int v30, .ref m31, .ref m32, .ref m33, .int v34, .int v35, .int v36, .ref m37, .ref m38, .ref m39, .ref m40, .long v41])), (m17, .inl (k 0, 30, .inl f17)), (m39, .inl (k 0, 44, .inl o_9))]) hP hD [7, 8, 9] [0, 1, 2, 3, 4, 5, 6] rfl rfl (by decide +kernel) (by decide +kernel) hk1 hFc hP1 hD1
        clear hK1 hP1 hD1 hPc hDc hFc
        clear hk1 hz1 ht hvm
        have hP : va_P D vwCl [(m16, .inl (k 0, 5, .inl f16)), (m18, .inl (k 0, 250, .inl f18)), (m19, .inl (k 0, 40, .inl f19)), (m20, .inl (k 0, 120, .inl f20)), (m22, .inl (k 0, 600, .inl f22)), (m25, .inl (k 0, 4, .inl o_7)), (m26, .inl (k 0, 8, .inl o_8)), (mo, .inr (12, [.int 0, .ref m1, .ref m2, .ref m3, .ref m4, .ref m5, .int v6, .int v7, .int v8, .int v9, .int v10, .long v11, .int v12, .int v13, .int v14, .int v15, .ref m16, .ref m17, .ref m18, .ref m19, .ref m20, .ref m21, .ref m22, .ref m23, .int o_6, .ref m25, .ref m26, .ref m27, .ref m28, .ref m29, .int v30, .ref m31, .ref m32, .ref m33, .int v34, .int v35, .int v36, .ref m37, .ref m38, .ref m39, .ref m40, .long v41])), (m17, .inl (k 0, 30, .inl f17)), (m39, .inl (k 0, 44, .inl o_9))] H1 := hP
        have hD : va_D A [(m16, .inl (k 0, 5, .inl f16)), (m18, .inl (k 0, 250, .inl f18)), (m19, .inl (k 0, 40, .inl f19)), (m20, .inl (k 0, 120, .inl f20)), (m22, .inl (k 0, 600, .inl f22)), (m25, .inl (k 0, 4, .inl o_7)), (m26, .inl (k 0, 8, .inl o_8)), (mo, .inr (12, [.int 0, .ref m1, .ref m2, .ref m3, .ref m4, .ref m5, .int v6, .int v7, .int v8, .int v9, .int v10, .long v11, .int v12, .int v13, .int v14, .int v15, .ref m16, .ref m17, .ref m18, .ref m19, .ref m20, .ref m21, .ref m22, .ref m23, .int o_6, .ref m25, .ref m26, .ref m27, .ref m28, .ref m29, .int v30, .ref m31, .ref m32, .ref m33, .int v34, .int v35, .int v36, .ref m37, .ref m38, .ref m39, .ref m40, .long v41])), (m17, .inl (k 0, 30, .inl f17)), (m39, .inl (k 0, 44, .inl o_9))] := hD
        generalize H1 = H at hP hS ⊢
        clear hw
        refine lv_icmp_ge (tgt := 53) hx hb dX12_clerk_48 (by decide) (fun h_24 => ?_) (fun h_24 => ?_)
        · skip
          have zh_24 : r_22.toInt ≤ r_20.toInt := z_le h_24
          obtain ⟨x_25, ex_25⟩ : ∃ y : Int32, y = L23l2 + 1 := ⟨_, rfl⟩
          have zx_25 : x_25.toInt = L23l2.toInt + 1 := by rw [ex_25]; exact z_add rfl rfl (by omega) (by omega)
          refine lv_iinc (v := x_25) (lv' := [(2, .int x_25), (0, .ref mo), (1, .int L23l1)]) hx hb dX12_clerk_53 hl (k := 2) rfl (by rw [ex_25]; rfl) (by decide) rfl (fun ls hl => ?_)
          refine lv_goto (tgt := 23) hx hb dX12_clerk_56 (by decide) ?_
          exact ih_14 _ _ _ _ (by omega) ⟨L23l1, x_25, rfl, (show (-1) ≤ L23l1.toInt ∧ L23l1.toInt ≤ 3 from by omega), (show 0 ≤ x_25.toInt ∧ x_25.toInt ≤ 4 from by omega), hP.sub (ws' := [(m16, .inl (k 0, 5, .inl f16)), (mo, .inr (12, [.int 0, .ref m1, .ref m2, .ref m3, .ref m4, .ref m5, .int v6, .int v7, .int v8, .int v9, .int v10, .long v11, .int v12, .int v13, .int v14, .int v15, .ref m16, .ref m17, .ref m18, .ref m19, .ref m20, .ref m21, .ref m22, .ref m23, .int o_6, .ref m25, .ref m26, .ref m27, .ref m28, .ref m29, .int v30, .ref m31, .ref m32, .ref m33, .int v34, .int v35, .int v36, .ref m37, .ref m38, .ref m39, .ref m40, .long v41])), (m17, .inl (k 0, 30, .inl f17)), (m18, .inl (k 0, 250, .inl f18)), (m19, .inl (k 0, 40, .inl f19)), (m20, .inl (k 0, 120, .inl f20)), (m22, .inl (k 0, 600, .inl f22)), (m25, .inl (k 0, 4, .inl o_7)), (m26, .inl (k 0, 8, .inl o_8)), (m39, .inl (k 0, 44, .inl o_9))]) [0, 7, 8, 1, 2, 3, 4, 5, 6, 9] rfl, hD.sub (ws' := [(m16, .inl (k 0, 5, .inl f16)), (mo, .inr (12, [.int 0, .ref m1, .ref m2, .ref m3, .ref m4, .ref m5, .int v6, .int v7, .int v8, .int v9, .int v10, .long v11, .int v12, .int v13, .int v14, .int v15, .ref m16, .ref m17, .ref m18, .ref m19, .ref m20, .ref m21, .ref m22, .ref m23, .int o_6, .ref m25, .ref m26, .ref m27, .ref m28, .ref m29, .int v30, .ref m31, .ref m32, .ref m33, .int v34, .int v35, .int v36, .ref m37, .ref m38, .ref m39, .ref m40, .long v41])), (m17, .inl (k 0, 30, .inl f17)), (m18, .inl (k 0, 250, .inl f18)), (m19, .inl (k 0, 40, .inl f19)), (m20, .inl (k 0, 120, .inl f20)), (m22, .inl (k 0, 600, .inl f22)), (m25, .inl (k 0, 4, .inl o_7)), (m26, .inl (k 0, 8, .inl o_8)), (m39, .inl (k 0, 44, .inl o_9))]) [0, 7, 8, 1, 2, 3, 4, 5, 6, 9] (by decide +kernel) rfl, hS, lv_sub hl [1, 2, 0] rfl⟩
        · skip
          have zh_24 : r_20.toInt < r_22.toInt := z_nle h_24
          refine lv_iload_n hx hb dX12_clerk_51 rfl (lv_at hl 2 rfl) ?_
          refine lv_istore_n (lv' := [(1, .int L23l2), (0, .ref mo), (2, .int L23l2)]) hx hb dX12_clerk_52 rfl hl (by decide) rfl (fun ls hl => ?_)
          obtain ⟨x_26, ex_26⟩ : ∃ y : Int32, y = L23l2 + 1 := ⟨_, rfl⟩
          have zx_26 : x_26.toInt = L23l2.toInt + 1 := by rw [ex_26]; exact z_add rfl rfl (by omega) (by omega)
          refine lv_iinc (v := x_26) (lv' := [(2, .int x_26), (1, .int L23l2), (0, .ref mo)]) hx hb dX12_clerk_53 hl (k := 2) rfl (by rw [ex_26]; rfl) (by decide) rfl (fun ls hl => ?_)
          refine lv_goto (tgt := 23) hx hb dX12_clerk_56 (by decide) ?_
          exact ih_14 _ _ _ _ (by omega) ⟨L23l2, x_26, rfl, (show (-1) ≤ L23l2.toInt ∧ L23l2.toInt ≤ 3 from by omega), (show 0 ≤ x_26.toInt ∧ x_26.toInt ≤ 4 from by omega), hP.sub (ws' := [(m16, .inl (k 0, 5, .inl f16)), (mo, .inr (12, [.int 0, .ref m1, .ref m2, .ref m3, .ref m4, .ref m5, .int v6, .int v7, .int v8, .int v9, .int v10, .long v11, .int v12, .int v13, .int v14, .int v15, .ref m16, .ref m17, .ref m18, .ref m19, .ref m20, .ref m21, .ref m22, .ref m23, .int o_6, .ref m25, .ref m26, .ref m27, .ref m28, .ref m29, .int v30, .ref m31, .ref m32, .ref m33, .int v34, .int v35, .int v36, .ref m37, .ref m38, .ref m39, .ref m40, .long v41])), (m17, .inl (k 0, 30, .inl f17)), (m18, .inl (k 0, 250, .inl f18)), (m19, .inl (k 0, 40, .inl f19)), (m20, .inl (k 0, 120, .inl f20)), (m22, .inl (k 0, 600, .inl f22)), (m25, .inl (k 0, 4, .inl o_7)), (m26, .inl (k 0, 8, .inl o_8)), (m39, .inl (k 0, 44, .inl o_9))]) [0, 7, 8, 1, 2, 3, 4, 5, 6, 9] rfl, hD.sub (ws' := [(m16, .inl (k 0, 5, .inl f16)), (mo, .inr (12, [.int 0, .ref m1, .ref m2, .ref m3, .ref m4, .ref m5, .int v6, .int v7, .int v8, .int v9, .int v10, .long v11, .int v12, .int v13, .int v14, .int v15, .ref m16, .ref m17, .ref m18, .ref m19, .ref m20, .ref m21, .ref m22, .ref m23, .int o_6, .ref m25, .ref m26, .ref m27, .ref m28, .ref m29, .int v30, .ref m31, .ref m32, .ref m33, .int v34, .int v35, .int v36, .ref m37, .ref m38, .ref m39, .ref m40, .long v41])), (m17, .inl (k 0, 30, .inl f17)), (m18, .inl (k 0, 250, .inl f18)), (m19, .inl (k 0, 40, .inl f19)), (m20, .inl (k 0, 120, .inl f20)), (m22, .inl (k 0, 600, .inl f22)), (m25, .inl (k 0, 4, .inl o_7)), (m26, .inl (k 0, 8, .inl o_8)), (m39, .inl (k 0, 44, .inl o_9))]) [0, 7, 8, 1, 2, 3, 4, 5, 6, 9] (by decide +kernel) rfl, hS, lv_sub hl [2, 1, 0] rfl⟩
  · skip
    have zh_4 : r_1.toInt = 0 := z_eq h_4
    refine lv_bipush (v := (-2)) hx hb dX12_clerk_12 (by decide) ?_
    obtain ⟨hP9, hD9⟩ := sub2 hP hD (ws' := [(mo, .inr (12, [.int 0, .ref m1, .ref m2, .ref m3, .ref m4, .ref m5, .int v6, .int v7, .int v8, .int v9, .int v10, .long v11, .int v12, .int v13, .int v14, .int v15, .ref m16, .ref m17, .ref m18, .ref m19, .ref m20, .ref m21, .ref m22, .ref m23, .int v24, .ref m25, .ref m26, .ref m27, .ref m28, .ref m29, .int v30, .ref m31, .ref m32, .ref m33, .int v34, .int v35, .int v36, .ref m37, .ref m38, .ref m39, .ref m40, .long v41])), (m16, .inl (k 0, 5, .inl f16)), (m17, .inl (k 0, 30, .inl f17)), (m18, .inl (k 0, 250, .inl f18)), (m19, .inl (k 0, 40, .inl f19)), (m20, .inl (k 0, 120, .inl f20)), (m22, .inl (k 0, 600, .inl f22)), (m25, .inl (k 0, 4, .inl f25)), (m26, .inl (k 0, 8, .inl f26)), (m39, .inl (k 0, 44, .inl f39))]) [8, 9, 0, 1, 2, 3, 4, 5, 6, 7] (by decide +kernel) rfl
    exact W.iret (v := (-2)) hx hb hr (fun tZ ht hW => ⟨⟨(-2), (0, v24, f25, f26, f39), rfl, ⟨(show (-2) ≤ (-2) ∧ (-2) ≤ 3 from by omega), (show 0 ≤ 0 ∧ 0 ≤ 0 from by omega), (show 0 ≤ v24.toInt ∧ v24.toInt ≤ 1023 from by omega), hp_f25_0, hp_f26_0⟩, by rw [ht]; exact hP9, va_K.moved hW.alike hK, hD9⟩, hS.F ht⟩) hS.2.2 dX12_clerk_14
set_option maxHeartbeats 4000000 in
set_option maxRecDepth 100000 in
theorem c_X12_common_0 (l : Launch) (D : va_G) (k : Nat → ClassId) (p0 : Int64) (p1 : Int64) (sz : Nat) (hk : 3 * (p0.toInt.natAbs : Int) + 2 * (p1.toInt.natAbs : Int) ≤ 4 ∧ p1.toInt.natAbs ≤ p0.toInt.natAbs ∧ ¬ p0.toInt = 0) : Met l yX12_common (ww yX12_common cX12_common 4 (some .long)) ({ frames := 0, cells := 0, slots := 0, locals := 0 }) (Pre0 D k [] sz [.long p0, .long p1]) (va_Ql (fun (r : Int64) (_ : Unit) => (¬ r.toInt = 0)) (fun (_ : Unit) tZ => Bw D k (va_A [] sz) [] tZ) (va_A [] sz)) 0 0 (va_A [] sz) := by
  refine Met.ofW (cc := cX12_common) (maxL := 4) (ret := (some .long)) (by decide +kernel) rfl ?_
  intro p e s m args below meth c s₁ B hml hv
  obtain ⟨rfl, hsz, hP, hK, hD0, hN⟩ := hv
  have hx := B.exec
  have hb := B.bytes
  have hr := B.returns
  have hts : ∀ w ∈ TT, w.before _ s = true := fun w h => atoms_spec (ws := ww yX12_common cX12_common 4 (some .long)) B.pre w (List.mem_cons_of_mem _ h)
  have hown : s.vm.findClass RX12 = some m.cls := findClass_of_methodNamed B.named
  have hlocks := B.notSynchronized
  subst hsz
  have hD := hD0.self (sz := s.heap.size)
  generalize hAe : va_A [] s.heap.size = A at hD ⊢
  have hA : ∀ q : Nat, s.heap.size ≤ q → A q := fun q h => by rw [← hAe]; exact Or.inr h
  have hS : va_S A s.heap s.heap [] := va_S.rf
  have hl := lv_entry ([.long p0, .long p1]) (n := 4) (Nat.le_of_ble_eq_true rfl)
  rw [lg_entry_eq]
  generalize (lg_sl ([.long p0, .long p1]) ++ List.replicate (4 - (lg_sl ([.long p0, .long p1])).length) Slot.unset).toArray = ls at hl ⊢
  have hl : lv_has ls 4 [(0, .long p0), (2, .long p1)] := hl
  refine lv_lload_n hx hb dX12_common_0 rfl (lv_at hl 1 rfl) ?_
  refine lv_lconst (v := 0) hx hb dX12_common_1 (by decide) ?_
  refine W.lcmp hx hb dX12_common_2 ?_
  refine lv_if_ne (tgt := 10) hx hb dX12_common_3 (by decide) (fun h_1 => ?_) (fun h_1 => ?_)
  · skip
    exact False.elim (by have z9 : ¬ p1.toInt = 0 := zL_ne h_1 rfl rfl; omega)
  · skip
    have zh_1 : p1.toInt = 0 := zL_eq h_1 rfl rfl
    refine lv_lload_n hx hb dX12_common_6 rfl (lv_at hl 0 rfl) ?_
    refine lv_goto (tgt := 17) hx hb dX12_common_7 (by decide) ?_
    obtain ⟨hP9, hD9⟩ := sub2 hP hD (ws' := []) [] (by decide +kernel) rfl
    exact W.lret (v := p0) hx hb hr (fun tZ ht hW => ⟨⟨p0, (), rfl, (show ¬ p0.toInt = 0 from by omega), by rw [ht]; exact hP9, va_K.moved hW.alike hK, hD9⟩, hS.F ht⟩) hS.2.2 dX12_common_17
set_option maxHeartbeats 4000000 in
set_option maxRecDepth 100000 in
theorem c_X12_common_1 (l : Launch) (D : va_G) (k : Nat → ClassId) (p0 : Int64) (p1 : Int64) (sz : Nat) (hk : 3 * (p0.toInt.natAbs : Int) + 2 * (p1.toInt.natAbs : Int) ≤ 7 ∧ p1.toInt.natAbs ≤ p0.toInt.natAbs ∧ ¬ p0.toInt = 0) : Met l yX12_common (ww yX12_common cX12_common 4 (some .long)) ({ frames := 1, cells := 0, slots := 0, locals := 23 }) (Pre0 D k [] sz [.long p0, .long p1]) (va_Ql (fun (r : Int64) (_ : Unit) => (¬ r.toInt = 0)) (fun (_ : Unit) tZ => Bw D k (va_A [] sz) [] tZ) (va_A [] sz)) 0 0 (va_A [] sz) := by
  refine Met.ofW (cc := cX12_common) (maxL := 4) (ret := (some .long)) (by decide +kernel) rfl ?_
  intro p e s m args below meth c s₁ B hml hv
  obtain ⟨rfl, hsz, hP, hK, hD0, hN⟩ := hv
  have hx := B.exec
  have hb := B.bytes
  have hr := B.returns
  have hts : ∀ w ∈ TT, w.before _ s = true := fun w h => atoms_spec (ws := ww yX12_common cX12_common 4 (some .long)) B.pre w (List.mem_cons_of_mem _ h)
  have hown : s.vm.findClass RX12 = some m.cls := findClass_of_methodNamed B.named
  have hlocks := B.notSynchronized
  subst hsz
  have hD := hD0.self (sz := s.heap.size)
  generalize hAe : va_A [] s.heap.size = A at hD ⊢
  have hA : ∀ q : Nat, s.heap.size ≤ q → A q := fun q h => by rw [← hAe]; exact Or.inr h
  have hS : va_S A s.heap s.heap [] := va_S.rf
  have hl := lv_entry ([.long p0, .long p1]) (n := 4) (Nat.le_of_ble_eq_true rfl)
  rw [lg_entry_eq]
  generalize (lg_sl ([.long p0, .long p1]) ++ List.replicate (4 - (lg_sl ([.long p0, .long p1])).length) Slot.unset).toArray = ls at hl ⊢
  have hl : lv_has ls 4 [(0, .long p0), (2, .long p1)] := hl
  refine lv_lload_n hx hb dX12_common_0 rfl (lv_at hl 1 rfl) ?_
  refine lv_lconst (v := 0) hx hb dX12_common_1 (by decide) ?_
  refine W.lcmp hx hb dX12_common_2 ?_
  refine lv_if_ne (tgt := 10) hx hb dX12_common_3 (by decide) (fun h_1 => ?_) (fun h_1 => ?_)
  · skip
    have zh_1 : ¬ p1.toInt = 0 := zL_ne h_1 rfl rfl
    refine lv_lload_n hx hb dX12_common_10 rfl (lv_at hl 1 rfl) ?_
    refine lv_lload_n hx hb dX12_common_11 rfl (lv_at hl 0 rfl) ?_
    refine lv_lload_n hx hb dX12_common_12 rfl (lv_at hl 1 rfl) ?_
    refine lv_lrem hx hb dX12_common_13 (fun q9 => by have := congrArg (fun v : Int64 => v.toInt) q9; simp at this; omega) ?_
    refine lv_topl (fun x_2 ex_2 => ?_)
    have zx_2 := zl_rem ex_2 (by omega)
    obtain ⟨hPc, hDc, hFc⟩ := sub3 hP hD hS hA (ws' := []) [] (by decide +kernel) rfl
    refine va_calll (va_runS (As := [.long p1, .long x_2]) (rest := []) ⟨hx, hb, hml, hown, hts⟩ (c_X12_common_0 l D k p1 x_2 s.heap.size (show 3 * (p1.toInt.natAbs : Int) + 2 * (x_2.toInt.natAbs : Int) ≤ 4 ∧ x_2.toInt.natAbs ≤ p1.toInt.natAbs ∧ ¬ p1.toInt = 0 from by omega)) (va_cwS 2 hts (gS tw_8_192 tw_8_193 tw_1_13 tw_8_194) rfl rfl rfl hdS_X12_common ⟨Nat.le_of_ble_eq_true rfl, Nat.le_of_ble_eq_true rfl⟩) (cz_S hK hPc hDc hN [.long p1, .long x_2]) rfl rfl hl.1 rfl (lv_room (Nat.le_of_ble_eq_true rfl)) dX12_common_14 ⟨Nat.le_of_ble_eq_true rfl, Nat.le_of_ble_eq_true rfl⟩) hS (fun q _ h => hFc q h) hFc (fun r_3 uZ tZ H1 locs ht hvm hw hB hz1 hk1 hS => ?_)
    obtain ⟨hP1, hK1, hD1⟩ := hB
    rw [ht] at hP1
    obtain ⟨hP, hD⟩ := va_join (wr := []) (w1 := []) hP hD [] [] rfl rfl (by decide +kernel) (by decide +kernel) hk1 hFc hP1 hD1
    clear hK1 hP1 hD1 hPc hDc hFc
    clear hk1 hz1 ht hvm
    have hP : va_P D vwCl [] H1 := hP
    have hD : va_D A [] := hD
    generalize H1 = H at hP hS ⊢
    have hw_4 : (¬ r_3.toInt = 0) := hw
    have hw_5 := hw_4
    clear hw
    obtain ⟨hP9, hD9⟩ := sub2 hP hD (ws' := []) [] (by decide +kernel) rfl
    exact W.lret (v := r_3) hx hb hr (fun tZ ht hW => ⟨⟨r_3, (), rfl, (show ¬ r_3.toInt = 0 from by omega), by rw [ht]; exact hP9, va_K.moved hW.alike hK, hD9⟩, hS.F ht⟩) hS.2.2 dX12_common_17
  · skip
    have zh_1 : p1.toInt = 0 := zL_eq h_1 rfl rfl
    refine lv_lload_n hx hb dX12_common_6 rfl (lv_at hl 0 rfl) ?_
    refine lv_goto (tgt := 17) hx hb dX12_common_7 (by decide) ?_
    obtain ⟨hP9, hD9⟩ := sub2 hP hD (ws' := []) [] (by decide +kernel) rfl
    exact W.lret (v := p0) hx hb hr (fun tZ ht hW => ⟨⟨p0, (), rfl, (show ¬ p0.toInt = 0 from by omega), by rw [ht]; exact hP9, va_K.moved hW.alike hK, hD9⟩, hS.F ht⟩) hS.2.2 dX12_common_17
set_option maxHeartbeats 4000000 in
set_option maxRecDepth 100000 in
theorem c_X12_common_2 (l : Launch) (D : va_G) (k : Nat → ClassId) (p0 : Int64) (p1 : Int64) (sz : Nat) (hk : 3 * (p0.toInt.natAbs : Int) + 2 * (p1.toInt.natAbs : Int) ≤ 11 ∧ p1.toInt.natAbs ≤ p0.toInt.natAbs ∧ ¬ p0.toInt = 0) : Met l yX12_common (ww yX12_common cX12_common 4 (some .long)) ({ frames := 2, cells := 0, slots := 0, locals := 46 }) (Pre0 D k [] sz [.long p0, .long p1]) (va_Ql (fun (r : Int64) (_ : Unit) => (¬ r.toInt = 0)) (fun (_ : Unit) tZ => Bw D k (va_A [] sz) [] tZ) (va_A [] sz)) 0 0 (va_A [] sz) := by
  refine Met.ofW (cc := cX12_common) (maxL := 4) (ret := (some .long)) (by decide +kernel) rfl ?_
  intro p e s m args below meth c s₁ B hml hv
  obtain ⟨rfl, hsz, hP, hK, hD0, hN⟩ := hv
  have hx := B.exec
  have hb := B.bytes
  have hr := B.returns
  have hts : ∀ w ∈ TT, w.before _ s = true := fun w h => atoms_spec (ws := ww yX12_common cX12_common 4 (some .long)) B.pre w (List.mem_cons_of_mem _ h)
  have hown : s.vm.findClass RX12 = some m.cls := findClass_of_methodNamed B.named
  have hlocks := B.notSynchronized
  subst hsz
  have hD := hD0.self (sz := s.heap.size)
  generalize hAe : va_A [] s.heap.size = A at hD ⊢
  have hA : ∀ q : Nat, s.heap.size ≤ q → A q := fun q h => by rw [← hAe]; exact Or.inr h
  have hS : va_S A s.heap s.heap [] := va_S.rf
  have hl := lv_entry ([.long p0, .long p1]) (n := 4) (Nat.le_of_ble_eq_true rfl)
  rw [lg_entry_eq]
  generalize (lg_sl ([.long p0, .long p1]) ++ List.replicate (4 - (lg_sl ([.long p0, .long p1])).length) Slot.unset).toArray = ls at hl ⊢
  have hl : lv_has ls 4 [(0, .long p0), (2, .long p1)] := hl
  refine lv_lload_n hx hb dX12_common_0 rfl (lv_at hl 1 rfl) ?_
  refine lv_lconst (v := 0) hx hb dX12_common_1 (by decide) ?_
  refine W.lcmp hx hb dX12_common_2 ?_
  refine lv_if_ne (tgt := 10) hx hb dX12_common_3 (by decide) (fun h_1 => ?_) (fun h_1 => ?_)
  · skip
    have zh_1 : ¬ p1.toInt = 0 := zL_ne h_1 rfl rfl
    refine lv_lload_n hx hb dX12_common_10 rfl (lv_at hl 1 rfl) ?_
    refine lv_lload_n hx hb dX12_common_11 rfl (lv_at hl 0 rfl) ?_
    refine lv_lload_n hx hb dX12_common_12 rfl (lv_at hl 1 rfl) ?_
    refine lv_lrem hx hb dX12_common_13 (fun q9 => by have := congrArg (fun v : Int64 => v.toInt) q9; simp at this; omega) ?_
    refine lv_topl (fun x_2 ex_2 => ?_)
    have zx_2 := zl_rem ex_2 (by omega)
    obtain ⟨hPc, hDc, hFc⟩ := sub3 hP hD hS hA (ws' := []) [] (by decide +kernel) rfl
    refine va_calll (va_runS (As := [.long p1, .long x_2]) (rest := []) ⟨hx, hb, hml, hown, hts⟩ (c_X12_common_1 l D k p1 x_2 s.heap.size (show 3 * (p1.toInt.natAbs : Int) + 2 * (x_2.toInt.natAbs : Int) ≤ 7 ∧ x_2.toInt.natAbs ≤ p1.toInt.natAbs ∧ ¬ p1.toInt = 0 from by omega)) (va_cwS 2 hts (gS tw_8_192 tw_8_193 tw_1_13 tw_8_194) rfl rfl rfl hdS_X12_common ⟨Nat.le_of_ble_eq_true rfl, Nat.le_of_ble_eq_true rfl⟩) (cz_S hK hPc hDc hN [.long p1, .long x_2]) rfl rfl hl.1 rfl (lv_room (Nat.le_of_ble_eq_true rfl)) dX12_common_14 ⟨Nat.le_of_ble_eq_true rfl, Nat.le_of_ble_eq_true rfl⟩) hS (fun q _ h => hFc q h) hFc (fun r_3 uZ tZ H1 locs ht hvm hw hB hz1 hk1 hS => ?_)
    obtain ⟨hP1, hK1, hD1⟩ := hB
    rw [ht] at hP1
    obtain ⟨hP, hD⟩ := va_join (wr := []) (w1 := []) hP hD [] [] rfl rfl (by decide +kernel) (by decide +kernel) hk1 hFc hP1 hD1
    clear hK1 hP1 hD1 hPc hDc hFc
    clear hk1 hz1 ht hvm
    have hP : va_P D vwCl [] H1 := hP
    have hD : va_D A [] := hD
    generalize H1 = H at hP hS ⊢
    have hw_4 : (¬ r_3.toInt = 0) := hw
    have hw_5 := hw_4
    clear hw
    obtain ⟨hP9, hD9⟩ := sub2 hP hD (ws' := []) [] (by decide +kernel) rfl
    exact W.lret (v := r_3) hx hb hr (fun tZ ht hW => ⟨⟨r_3, (), rfl, (show ¬ r_3.toInt = 0 from by omega), by rw [ht]; exact hP9, va_K.moved hW.alike hK, hD9⟩, hS.F ht⟩) hS.2.2 dX12_common_17
  · skip
    have zh_1 : p1.toInt = 0 := zL_eq h_1 rfl rfl
    refine lv_lload_n hx hb dX12_common_6 rfl (lv_at hl 0 rfl) ?_
    refine lv_goto (tgt := 17) hx hb dX12_common_7 (by decide) ?_
    obtain ⟨hP9, hD9⟩ := sub2 hP hD (ws' := []) [] (by decide +kernel) rfl
    exact W.lret (v := p0) hx hb hr (fun tZ ht hW => ⟨⟨p0, (), rfl, (show ¬ p0.toInt = 0 from by omega), by rw [ht]; exact hP9, va_K.moved hW.alike hK, hD9⟩, hS.F ht⟩) hS.2.2 dX12_common_17
set_option maxHeartbeats 4000000 in
set_option maxRecDepth 100000 in
theorem c_X12_common_3 (l : Launch) (D : va_G) (k : Nat → ClassId) (p0 : Int64) (p1 : Int64) (sz : Nat) (hk : 3 * (p0.toInt.natAbs : Int) + 2 * (p1.toInt.natAbs : Int) ≤ 17 ∧ p1.toInt.natAbs ≤ p0.toInt.natAbs ∧ ¬ p0.toInt = 0) : Met l yX12_common (ww yX12_common cX12_common 4 (some .long)) ({ frames := 3, cells := 0, slots := 0, locals := 69 }) (Pre0 D k [] sz [.long p0, .long p1]) (va_Ql (fun (r : Int64) (_ : Unit) => (¬ r.toInt = 0)) (fun (_ : Unit) tZ => Bw D k (va_A [] sz) [] tZ) (va_A [] sz)) 0 0 (va_A [] sz) := by
  refine Met.ofW (cc := cX12_common) (maxL := 4) (ret := (some .long)) (by decide +kernel) rfl ?_
  intro p e s m args below meth c s₁ B hml hv
  obtain ⟨rfl, hsz, hP, hK, hD0, hN⟩ := hv
  have hx := B.exec
  have hb := B.bytes
  have hr := B.returns
  have hts : ∀ w ∈ TT, w.before _ s = true := fun w h => atoms_spec (ws := ww yX12_common cX12_common 4 (some .long)) B.pre w (List.mem_cons_of_mem _ h)
  have hown : s.vm.findClass RX12 = some m.cls := findClass_of_methodNamed B.named
  have hlocks := B.notSynchronized
  subst hsz
  have hD := hD0.self (sz := s.heap.size)
  generalize hAe : va_A [] s.heap.size = A at hD ⊢
  have hA : ∀ q : Nat, s.heap.size ≤ q → A q := fun q h => by rw [← hAe]; exact Or.inr h
  have hS : va_S A s.heap s.heap [] := va_S.rf
  have hl := lv_entry ([.long p0, .long p1]) (n := 4) (Nat.le_of_ble_eq_true rfl)
  rw [lg_entry_eq]
  generalize (lg_sl ([.long p0, .long p1]) ++ List.replicate (4 - (lg_sl ([.long p0, .long p1])).length) Slot.unset).toArray = ls at hl ⊢
  have hl : lv_has ls 4 [(0, .long p0), (2, .long p1)] := hl
  refine lv_lload_n hx hb dX12_common_0 rfl (lv_at hl 1 rfl) ?_
  refine lv_lconst (v := 0) hx hb dX12_common_1 (by decide) ?_
  refine W.lcmp hx hb dX12_common_2 ?_
  refine lv_if_ne (tgt := 10) hx hb dX12_common_3 (by decide) (fun h_1 => ?_) (fun h_1 => ?_)
  · skip
    have zh_1 : ¬ p1.toInt = 0 := zL_ne h_1 rfl rfl
    refine lv_lload_n hx hb dX12_common_10 rfl (lv_at hl 1 rfl) ?_
    refine lv_lload_n hx hb dX12_common_11 rfl (lv_at hl 0 rfl) ?_
    refine lv_lload_n hx hb dX12_common_12 rfl (lv_at hl 1 rfl) ?_
    refine lv_lrem hx hb dX12_common_13 (fun q9 => by have := congrArg (fun v : Int64 => v.toInt) q9; simp at this; omega) ?_
    refine lv_topl (fun x_2 ex_2 => ?_)
    have zx_2 := zl_rem ex_2 (by omega)
    obtain ⟨hPc, hDc, hFc⟩ := sub3 hP hD hS hA (ws' := []) [] (by decide +kernel) rfl
    refine va_calll (va_runS (As := [.long p1, .long x_2]) (rest := []) ⟨hx, hb, hml, hown, hts⟩ (c_X12_common_2 l D k p1 x_2 s.heap.size (show 3 * (p1.toInt.natAbs : Int) + 2 * (x_2.toInt.natAbs : Int) ≤ 11 ∧ x_2.toInt.natAbs ≤ p1.toInt.natAbs ∧ ¬ p1.toInt = 0 from by omega)) (va_cwS 2 hts (gS tw_8_192 tw_8_193 tw_1_13 tw_8_194) rfl rfl rfl hdS_X12_common ⟨Nat.le_of_ble_eq_true rfl, Nat.le_of_ble_eq_true rfl⟩) (cz_S hK hPc hDc hN [.long p1, .long x_2]) rfl rfl hl.1 rfl (lv_room (Nat.le_of_ble_eq_true rfl)) dX12_common_14 ⟨Nat.le_of_ble_eq_true rfl, Nat.le_of_ble_eq_true rfl⟩) hS (fun q _ h => hFc q h) hFc (fun r_3 uZ tZ H1 locs ht hvm hw hB hz1 hk1 hS => ?_)
    obtain ⟨hP1, hK1, hD1⟩ := hB
    rw [ht] at hP1
    obtain ⟨hP, hD⟩ := va_join (wr := []) (w1 := []) hP hD [] [] rfl rfl (by decide +kernel) (by decide +kernel) hk1 hFc hP1 hD1
    clear hK1 hP1 hD1 hPc hDc hFc
    clear hk1 hz1 ht hvm
    have hP : va_P D vwCl [] H1 := hP
    have hD : va_D A [] := hD
    generalize H1 = H at hP hS ⊢
    have hw_4 : (¬ r_3.toInt = 0) := hw
    have hw_5 := hw_4
    clear hw
    obtain ⟨hP9, hD9⟩ := sub2 hP hD (ws' := []) [] (by decide +kernel) rfl
    exact W.lret (v := r_3) hx hb hr (fun tZ ht hW => ⟨⟨r_3, (), rfl, (show ¬ r_3.toInt = 0 from by omega), by rw [ht]; exact hP9, va_K.moved hW.alike hK, hD9⟩, hS.F ht⟩) hS.2.2 dX12_common_17
  · skip
    have zh_1 : p1.toInt = 0 := zL_eq h_1 rfl rfl
    refine lv_lload_n hx hb dX12_common_6 rfl (lv_at hl 0 rfl) ?_
    refine lv_goto (tgt := 17) hx hb dX12_common_7 (by decide) ?_
    obtain ⟨hP9, hD9⟩ := sub2 hP hD (ws' := []) [] (by decide +kernel) rfl
    exact W.lret (v := p0) hx hb hr (fun tZ ht hW => ⟨⟨p0, (), rfl, (show ¬ p0.toInt = 0 from by omega), by rw [ht]; exact hP9, va_K.moved hW.alike hK, hD9⟩, hS.F ht⟩) hS.2.2 dX12_common_17
set_option maxHeartbeats 4000000 in
set_option maxRecDepth 100000 in
theorem c_X12_common_4 (l : Launch) (D : va_G) (k : Nat → ClassId) (p0 : Int64) (p1 : Int64) (sz : Nat) (hk : 3 * (p0.toInt.natAbs : Int) + 2 * (p1.toInt.natAbs : Int) ≤ 26 ∧ p1.toInt.natAbs ≤ p0.toInt.natAbs ∧ ¬ p0.toInt = 0) : Met l yX12_common (ww yX12_common cX12_common 4 (some .long)) ({ frames := 4, cells := 0, slots := 0, locals := 92 }) (Pre0 D k [] sz [.long p0, .long p1]) (va_Ql (fun (r : Int64) (_ : Unit) => (¬ r.toInt = 0)) (fun (_ : Unit) tZ => Bw D k (va_A [] sz) [] tZ) (va_A [] sz)) 0 0 (va_A [] sz) := by
  refine Met.ofW (cc := cX12_common) (maxL := 4) (ret := (some .long)) (by decide +kernel) rfl ?_
  intro p e s m args below meth c s₁ B hml hv
  obtain ⟨rfl, hsz, hP, hK, hD0, hN⟩ := hv
  have hx := B.exec
  have hb := B.bytes
  have hr := B.returns
  have hts : ∀ w ∈ TT, w.before _ s = true := fun w h => atoms_spec (ws := ww yX12_common cX12_common 4 (some .long)) B.pre w (List.mem_cons_of_mem _ h)
  have hown : s.vm.findClass RX12 = some m.cls := findClass_of_methodNamed B.named
  have hlocks := B.notSynchronized
  subst hsz
  have hD := hD0.self (sz := s.heap.size)
  generalize hAe : va_A [] s.heap.size = A at hD ⊢
  have hA : ∀ q : Nat, s.heap.size ≤ q → A q := fun q h => by rw [← hAe]; exact Or.inr h
  have hS : va_S A s.heap s.heap [] := va_S.rf
  have hl := lv_entry ([.long p0, .long p1]) (n := 4) (Nat.le_of_ble_eq_true rfl)
  rw [lg_entry_eq]
  generalize (lg_sl ([.long p0, .long p1]) ++ List.replicate (4 - (lg_sl ([.long p0, .long p1])).length) Slot.unset).toArray = ls at hl ⊢
  have hl : lv_has ls 4 [(0, .long p0), (2, .long p1)] := hl
  refine lv_lload_n hx hb dX12_common_0 rfl (lv_at hl 1 rfl) ?_
  refine lv_lconst (v := 0) hx hb dX12_common_1 (by decide) ?_
  refine W.lcmp hx hb dX12_common_2 ?_
  refine lv_if_ne (tgt := 10) hx hb dX12_common_3 (by decide) (fun h_1 => ?_) (fun h_1 => ?_)
  · skip
    have zh_1 : ¬ p1.toInt = 0 := zL_ne h_1 rfl rfl
    refine lv_lload_n hx hb dX12_common_10 rfl (lv_at hl 1 rfl) ?_
    refine lv_lload_n hx hb dX12_common_11 rfl (lv_at hl 0 rfl) ?_
    refine lv_lload_n hx hb dX12_common_12 rfl (lv_at hl 1 rfl) ?_
    refine lv_lrem hx hb dX12_common_13 (fun q9 => by have := congrArg (fun v : Int64 => v.toInt) q9; simp at this; omega) ?_
    refine lv_topl (fun x_2 ex_2 => ?_)
    have zx_2 := zl_rem ex_2 (by omega)
    obtain ⟨hPc, hDc, hFc⟩ := sub3 hP hD hS hA (ws' := []) [] (by decide +kernel) rfl
    refine va_calll (va_runS (As := [.long p1, .long x_2]) (rest := []) ⟨hx, hb, hml, hown, hts⟩ (c_X12_common_3 l D k p1 x_2 s.heap.size (show 3 * (p1.toInt.natAbs : Int) + 2 * (x_2.toInt.natAbs : Int) ≤ 17 ∧ x_2.toInt.natAbs ≤ p1.toInt.natAbs ∧ ¬ p1.toInt = 0 from by omega)) (va_cwS 2 hts (gS tw_8_192 tw_8_193 tw_1_13 tw_8_194) rfl rfl rfl hdS_X12_common ⟨Nat.le_of_ble_eq_true rfl, Nat.le_of_ble_eq_true rfl⟩) (cz_S hK hPc hDc hN [.long p1, .long x_2]) rfl rfl hl.1 rfl (lv_room (Nat.le_of_ble_eq_true rfl)) dX12_common_14 ⟨Nat.le_of_ble_eq_true rfl, Nat.le_of_ble_eq_true rfl⟩) hS (fun q _ h => hFc q h) hFc (fun r_3 uZ tZ H1 locs ht hvm hw hB hz1 hk1 hS => ?_)
    obtain ⟨hP1, hK1, hD1⟩ := hB
    rw [ht] at hP1
    obtain ⟨hP, hD⟩ := va_join (wr := []) (w1 := []) hP hD [] [] rfl rfl (by decide +kernel) (by decide +kernel) hk1 hFc hP1 hD1
    clear hK1 hP1 hD1 hPc hDc hFc
    clear hk1 hz1 ht hvm
    have hP : va_P D vwCl [] H1 := hP
    have hD : va_D A [] := hD
    generalize H1 = H at hP hS ⊢
    have hw_4 : (¬ r_3.toInt = 0) := hw
    have hw_5 := hw_4
    clear hw
    obtain ⟨hP9, hD9⟩ := sub2 hP hD (ws' := []) [] (by decide +kernel) rfl
    exact W.lret (v := r_3) hx hb hr (fun tZ ht hW => ⟨⟨r_3, (), rfl, (show ¬ r_3.toInt = 0 from by omega), by rw [ht]; exact hP9, va_K.moved hW.alike hK, hD9⟩, hS.F ht⟩) hS.2.2 dX12_common_17
  · skip
    have zh_1 : p1.toInt = 0 := zL_eq h_1 rfl rfl
    refine lv_lload_n hx hb dX12_common_6 rfl (lv_at hl 0 rfl) ?_
    refine lv_goto (tgt := 17) hx hb dX12_common_7 (by decide) ?_
    obtain ⟨hP9, hD9⟩ := sub2 hP hD (ws' := []) [] (by decide +kernel) rfl
    exact W.lret (v := p0) hx hb hr (fun tZ ht hW => ⟨⟨p0, (), rfl, (show ¬ p0.toInt = 0 from by omega), by rw [ht]; exact hP9, va_K.moved hW.alike hK, hD9⟩, hS.F ht⟩) hS.2.2 dX12_common_17
set_option maxHeartbeats 4000000 in
set_option maxRecDepth 100000 in
theorem c_X12_common_5 (l : Launch) (D : va_G) (k : Nat → ClassId) (p0 : Int64) (p1 : Int64) (sz : Nat) (hk : 3 * (p0.toInt.natAbs : Int) + 2 * (p1.toInt.natAbs : Int) ≤ 40 ∧ p1.toInt.natAbs ≤ p0.toInt.natAbs ∧ ¬ p0.toInt = 0) : Met l yX12_common (ww yX12_common cX12_common 4 (some .long)) ({ frames := 5, cells := 0, slots := 0, locals := 115 }) (Pre0 D k [] sz [.long p0, .long p1]) (va_Ql (fun (r : Int64) (_ : Unit) => (¬ r.toInt = 0)) (fun (_ : Unit) tZ => Bw D k (va_A [] sz) [] tZ) (va_A [] sz)) 0 0 (va_A [] sz) := by
  refine Met.ofW (cc := cX12_common) (maxL := 4) (ret := (some .long)) (by decide +kernel) rfl ?_
  intro p e s m args below meth c s₁ B hml hv
  obtain ⟨rfl, hsz, hP, hK, hD0, hN⟩ := hv
  have hx := B.exec
  have hb := B.bytes
  have hr := B.returns
  have hts : ∀ w ∈ TT, w.before _ s = true := fun w h => atoms_spec (ws := ww yX12_common cX12_common 4 (some .long)) B.pre w (List.mem_cons_of_mem _ h)
  have hown : s.vm.findClass RX12 = some m.cls := findClass_of_methodNamed B.named
  have hlocks := B.notSynchronized
  subst hsz
  have hD := hD0.self (sz := s.heap.size)
  generalize hAe : va_A [] s.heap.size = A at hD ⊢
  have hA : ∀ q : Nat, s.heap.size ≤ q → A q := fun q h => by rw [← hAe]; exact Or.inr h
  have hS : va_S A s.heap s.heap [] := va_S.rf
  have hl := lv_entry ([.long p0, .long p1]) (n := 4) (Nat.le_of_ble_eq_true rfl)
  rw [lg_entry_eq]
  generalize (lg_sl ([.long p0, .long p1]) ++ List.replicate (4 - (lg_sl ([.long p0, .long p1])).length) Slot.unset).toArray = ls at hl ⊢
  have hl : lv_has ls 4 [(0, .long p0), (2, .long p1)] := hl
  refine lv_lload_n hx hb dX12_common_0 rfl (lv_at hl 1 rfl) ?_
  refine lv_lconst (v := 0) hx hb dX12_common_1 (by decide) ?_
  refine W.lcmp hx hb dX12_common_2 ?_
  refine lv_if_ne (tgt := 10) hx hb dX12_common_3 (by decide) (fun h_1 => ?_) (fun h_1 => ?_)
  · skip
    have zh_1 : ¬ p1.toInt = 0 := zL_ne h_1 rfl rfl
    refine lv_lload_n hx hb dX12_common_10 rfl (lv_at hl 1 rfl) ?_
    refine lv_lload_n hx hb dX12_common_11 rfl (lv_at hl 0 rfl) ?_
    refine lv_lload_n hx hb dX12_common_12 rfl (lv_at hl 1 rfl) ?_
    refine lv_lrem hx hb dX12_common_13 (fun q9 => by have := congrArg (fun v : Int64 => v.toInt) q9; simp at this; omega) ?_
    refine lv_topl (fun x_2 ex_2 => ?_)
    have zx_2 := zl_rem ex_2 (by omega)
    obtain ⟨hPc, hDc, hFc⟩ := sub3 hP hD hS hA (ws' := []) [] (by decide +kernel) rfl
    refine va_calll (va_runS (As := [.long p1, .long x_2]) (rest := []) ⟨hx, hb, hml, hown, hts⟩ (c_X12_common_4 l D k p1 x_2 s.heap.size (show 3 * (p1.toInt.natAbs : Int) + 2 * (x_2.toInt.natAbs : Int) ≤ 26 ∧ x_2.toInt.natAbs ≤ p1.toInt.natAbs ∧ ¬ p1.toInt = 0 from by omega)) (va_cwS 2 hts (gS tw_8_192 tw_8_193 tw_1_13 tw_8_194) rfl rfl rfl hdS_X12_common ⟨Nat.le_of_ble_eq_true rfl, Nat.le_of_ble_eq_true rfl⟩) (cz_S hK hPc hDc hN [.long p1, .long x_2]) rfl rfl hl.1 rfl (lv_room (Nat.le_of_ble_eq_true rfl)) dX12_common_14 ⟨Nat.le_of_ble_eq_true rfl, Nat.le_of_ble_eq_true rfl⟩) hS (fun q _ h => hFc q h) hFc (fun r_3 uZ tZ H1 locs ht hvm hw hB hz1 hk1 hS => ?_)
    obtain ⟨hP1, hK1, hD1⟩ := hB
    rw [ht] at hP1
    obtain ⟨hP, hD⟩ := va_join (wr := []) (w1 := []) hP hD [] [] rfl rfl (by decide +kernel) (by decide +kernel) hk1 hFc hP1 hD1
    clear hK1 hP1 hD1 hPc hDc hFc
    clear hk1 hz1 ht hvm
    have hP : va_P D vwCl [] H1 := hP
    have hD : va_D A [] := hD
    generalize H1 = H at hP hS ⊢
    have hw_4 : (¬ r_3.toInt = 0) := hw
    have hw_5 := hw_4
    clear hw
    obtain ⟨hP9, hD9⟩ := sub2 hP hD (ws' := []) [] (by decide +kernel) rfl
    exact W.lret (v := r_3) hx hb hr (fun tZ ht hW => ⟨⟨r_3, (), rfl, (show ¬ r_3.toInt = 0 from by omega), by rw [ht]; exact hP9, va_K.moved hW.alike hK, hD9⟩, hS.F ht⟩) hS.2.2 dX12_common_17
  · skip
    have zh_1 : p1.toInt = 0 := zL_eq h_1 rfl rfl
    refine lv_lload_n hx hb dX12_common_6 rfl (lv_at hl 0 rfl) ?_
    refine lv_goto (tgt := 17) hx hb dX12_common_7 (by decide) ?_
    obtain ⟨hP9, hD9⟩ := sub2 hP hD (ws' := []) [] (by decide +kernel) rfl
    exact W.lret (v := p0) hx hb hr (fun tZ ht hW => ⟨⟨p0, (), rfl, (show ¬ p0.toInt = 0 from by omega), by rw [ht]; exact hP9, va_K.moved hW.alike hK, hD9⟩, hS.F ht⟩) hS.2.2 dX12_common_17
set_option maxHeartbeats 4000000 in
set_option maxRecDepth 100000 in
theorem c_X12_common_6 (l : Launch) (D : va_G) (k : Nat → ClassId) (p0 : Int64) (p1 : Int64) (sz : Nat) (hk : 3 * (p0.toInt.natAbs : Int) + 2 * (p1.toInt.natAbs : Int) ≤ 61 ∧ p1.toInt.natAbs ≤ p0.toInt.natAbs ∧ ¬ p0.toInt = 0) : Met l yX12_common (ww yX12_common cX12_common 4 (some .long)) ({ frames := 6, cells := 0, slots := 0, locals := 138 }) (Pre0 D k [] sz [.long p0, .long p1]) (va_Ql (fun (r : Int64) (_ : Unit) => (¬ r.toInt = 0)) (fun (_ : Unit) tZ => Bw D k (va_A [] sz) [] tZ) (va_A [] sz)) 0 0 (va_A [] sz) := by
  refine Met.ofW (cc := cX12_common) (maxL := 4) (ret := (some .long)) (by decide +kernel) rfl ?_
  intro p e s m args below meth c s₁ B hml hv
  obtain ⟨rfl, hsz, hP, hK, hD0, hN⟩ := hv
  have hx := B.exec
  have hb := B.bytes
  have hr := B.returns
  have hts : ∀ w ∈ TT, w.before _ s = true := fun w h => atoms_spec (ws := ww yX12_common cX12_common 4 (some .long)) B.pre w (List.mem_cons_of_mem _ h)
  have hown : s.vm.findClass RX12 = some m.cls := findClass_of_methodNamed B.named
  have hlocks := B.notSynchronized
  subst hsz
  have hD := hD0.self (sz := s.heap.size)
  generalize hAe : va_A [] s.heap.size = A at hD ⊢
  have hA : ∀ q : Nat, s.heap.size ≤ q → A q := fun q h => by rw [← hAe]; exact Or.inr h
  have hS : va_S A s.heap s.heap [] := va_S.rf
  have hl := lv_entry ([.long p0, .long p1]) (n := 4) (Nat.le_of_ble_eq_true rfl)
  rw [lg_entry_eq]
  generalize (lg_sl ([.long p0, .long p1]) ++ List.replicate (4 - (lg_sl ([.long p0, .long p1])).length) Slot.unset).toArray = ls at hl ⊢
  have hl : lv_has ls 4 [(0, .long p0), (2, .long p1)] := hl
  refine lv_lload_n hx hb dX12_common_0 rfl (lv_at hl 1 rfl) ?_
  refine lv_lconst (v := 0) hx hb dX12_common_1 (by decide) ?_
  refine W.lcmp hx hb dX12_common_2 ?_
  refine lv_if_ne (tgt := 10) hx hb dX12_common_3 (by decide) (fun h_1 => ?_) (fun h_1 => ?_)
  · skip
    have zh_1 : ¬ p1.toInt = 0 := zL_ne h_1 rfl rfl
    refine lv_lload_n hx hb dX12_common_10 rfl (lv_at hl 1 rfl) ?_
    refine lv_lload_n hx hb dX12_common_11 rfl (lv_at hl 0 rfl) ?_
    refine lv_lload_n hx hb dX12_common_12 rfl (lv_at hl 1 rfl) ?_
    refine lv_lrem hx hb dX12_common_13 (fun q9 => by have := congrArg (fun v : Int64 => v.toInt) q9; simp at this; omega) ?_
    refine lv_topl (fun x_2 ex_2 => ?_)
    have zx_2 := zl_rem ex_2 (by omega)
    obtain ⟨hPc, hDc, hFc⟩ := sub3 hP hD hS hA (ws' := []) [] (by decide +kernel) rfl
    refine va_calll (va_runS (As := [.long p1, .long x_2]) (rest := []) ⟨hx, hb, hml, hown, hts⟩ (c_X12_common_5 l D k p1 x_2 s.heap.size (show 3 * (p1.toInt.natAbs : Int) + 2 * (x_2.toInt.natAbs : Int) ≤ 40 ∧ x_2.toInt.natAbs ≤ p1.toInt.natAbs ∧ ¬ p1.toInt = 0 from by omega)) (va_cwS 2 hts (gS tw_8_192 tw_8_193 tw_1_13 tw_8_194) rfl rfl rfl hdS_X12_common ⟨Nat.le_of_ble_eq_true rfl, Nat.le_of_ble_eq_true rfl⟩) (cz_S hK hPc hDc hN [.long p1, .long x_2]) rfl rfl hl.1 rfl (lv_room (Nat.le_of_ble_eq_true rfl)) dX12_common_14 ⟨Nat.le_of_ble_eq_true rfl, Nat.le_of_ble_eq_true rfl⟩) hS (fun q _ h => hFc q h) hFc (fun r_3 uZ tZ H1 locs ht hvm hw hB hz1 hk1 hS => ?_)
    obtain ⟨hP1, hK1, hD1⟩ := hB
    rw [ht] at hP1
    obtain ⟨hP, hD⟩ := va_join (wr := []) (w1 := []) hP hD [] [] rfl rfl (by decide +kernel) (by decide +kernel) hk1 hFc hP1 hD1
    clear hK1 hP1 hD1 hPc hDc hFc
    clear hk1 hz1 ht hvm
    have hP : va_P D vwCl [] H1 := hP
    have hD : va_D A [] := hD
    generalize H1 = H at hP hS ⊢
    have hw_4 : (¬ r_3.toInt = 0) := hw
    have hw_5 := hw_4
    clear hw
    obtain ⟨hP9, hD9⟩ := sub2 hP hD (ws' := []) [] (by decide +kernel) rfl
    exact W.lret (v := r_3) hx hb hr (fun tZ ht hW => ⟨⟨r_3, (), rfl, (show ¬ r_3.toInt = 0 from by omega), by rw [ht]; exact hP9, va_K.moved hW.alike hK, hD9⟩, hS.F ht⟩) hS.2.2 dX12_common_17
  · skip
    have zh_1 : p1.toInt = 0 := zL_eq h_1 rfl rfl
    refine lv_lload_n hx hb dX12_common_6 rfl (lv_at hl 0 rfl) ?_
    refine lv_goto (tgt := 17) hx hb dX12_common_7 (by decide) ?_
    obtain ⟨hP9, hD9⟩ := sub2 hP hD (ws' := []) [] (by decide +kernel) rfl
    exact W.lret (v := p0) hx hb hr (fun tZ ht hW => ⟨⟨p0, (), rfl, (show ¬ p0.toInt = 0 from by omega), by rw [ht]; exact hP9, va_K.moved hW.alike hK, hD9⟩, hS.F ht⟩) hS.2.2 dX12_common_17
set_option maxHeartbeats 4000000 in
set_option maxRecDepth 100000 in
theorem c_X12_common_7 (l : Launch) (D : va_G) (k : Nat → ClassId) (p0 : Int64) (p1 : Int64) (sz : Nat) (hk : 3 * (p0.toInt.natAbs : Int) + 2 * (p1.toInt.natAbs : Int) ≤ 92 ∧ p1.toInt.natAbs ≤ p0.toInt.natAbs ∧ ¬ p0.toInt = 0) : Met l yX12_common (ww yX12_common cX12_common 4 (some .long)) ({ frames := 7, cells := 0, slots := 0, locals := 161 }) (Pre0 D k [] sz [.long p0, .long p1]) (va_Ql (fun (r : Int64) (_ : Unit) => (¬ r.toInt = 0)) (fun (_ : Unit) tZ => Bw D k (va_A [] sz) [] tZ) (va_A [] sz)) 0 0 (va_A [] sz) := by
  refine Met.ofW (cc := cX12_common) (maxL := 4) (ret := (some .long)) (by decide +kernel) rfl ?_
  intro p e s m args below meth c s₁ B hml hv
  obtain ⟨rfl, hsz, hP, hK, hD0, hN⟩ := hv
  have hx := B.exec
  have hb := B.bytes
  have hr := B.returns
  have hts : ∀ w ∈ TT, w.before _ s = true := fun w h => atoms_spec (ws := ww yX12_common cX12_common 4 (some .long)) B.pre w (List.mem_cons_of_mem _ h)
  have hown : s.vm.findClass RX12 = some m.cls := findClass_of_methodNamed B.named
  have hlocks := B.notSynchronized
  subst hsz
  have hD := hD0.self (sz := s.heap.size)
  generalize hAe : va_A [] s.heap.size = A at hD ⊢
  have hA : ∀ q : Nat, s.heap.size ≤ q → A q := fun q h => by rw [← hAe]; exact Or.inr h
  have hS : va_S A s.heap s.heap [] := va_S.rf
  have hl := lv_entry ([.long p0, .long p1]) (n := 4) (Nat.le_of_ble_eq_true rfl)
  rw [lg_entry_eq]
  generalize (lg_sl ([.long p0, .long p1]) ++ List.replicate (4 - (lg_sl ([.long p0, .long p1])).length) Slot.unset).toArray = ls at hl ⊢
  have hl : lv_has ls 4 [(0, .long p0), (2, .long p1)] := hl
  refine lv_lload_n hx hb dX12_common_0 rfl (lv_at hl 1 rfl) ?_
  refine lv_lconst (v := 0) hx hb dX12_common_1 (by decide) ?_
  refine W.lcmp hx hb dX12_common_2 ?_
  refine lv_if_ne (tgt := 10) hx hb dX12_common_3 (by decide) (fun h_1 => ?_) (fun h_1 => ?_)
  · skip
    have zh_1 : ¬ p1.toInt = 0 := zL_ne h_1 rfl rfl
    refine lv_lload_n hx hb dX12_common_10 rfl (lv_at hl 1 rfl) ?_
    refine lv_lload_n hx hb dX12_common_11 rfl (lv_at hl 0 rfl) ?_
    refine lv_lload_n hx hb dX12_common_12 rfl (lv_at hl 1 rfl) ?_
    refine lv_lrem hx hb dX12_common_13 (fun q9 => by have := congrArg (fun v : Int64 => v.toInt) q9; simp at this; omega) ?_
    refine lv_topl (fun x_2 ex_2 => ?_)
    have zx_2 := zl_rem ex_2 (by omega)
    obtain ⟨hPc, hDc, hFc⟩ := sub3 hP hD hS hA (ws' := []) [] (by decide +kernel) rfl
    refine va_calll (va_runS (As := [.long p1, .long x_2]) (rest := []) ⟨hx, hb, hml, hown, hts⟩ (c_X12_common_6 l D k p1 x_2 s.heap.size (show 3 * (p1.toInt.natAbs : Int) + 2 * (x_2.toInt.natAbs : Int) ≤ 61 ∧ x_2.toInt.natAbs ≤ p1.toInt.natAbs ∧ ¬ p1.toInt = 0 from by omega)) (va_cwS 2 hts (gS tw_8_192 tw_8_193 tw_1_13 tw_8_194) rfl rfl rfl hdS_X12_common ⟨Nat.le_of_ble_eq_true rfl, Nat.le_of_ble_eq_true rfl⟩) (cz_S hK hPc hDc hN [.long p1, .long x_2]) rfl rfl hl.1 rfl (lv_room (Nat.le_of_ble_eq_true rfl)) dX12_common_14 ⟨Nat.le_of_ble_eq_true rfl, Nat.le_of_ble_eq_true rfl⟩) hS (fun q _ h => hFc q h) hFc (fun r_3 uZ tZ H1 locs ht hvm hw hB hz1 hk1 hS => ?_)
    obtain ⟨hP1, hK1, hD1⟩ := hB
    rw [ht] at hP1
    obtain ⟨hP, hD⟩ := va_join (wr := []) (w1 := []) hP hD [] [] rfl rfl (by decide +kernel) (by decide +kernel) hk1 hFc hP1 hD1
    clear hK1 hP1 hD1 hPc hDc hFc
    clear hk1 hz1 ht hvm
    have hP : va_P D vwCl [] H1 := hP
    have hD : va_D A [] := hD
    generalize H1 = H at hP hS ⊢
    have hw_4 : (¬ r_3.toInt = 0) := hw
    have hw_5 := hw_4
    clear hw
    obtain ⟨hP9, hD9⟩ := sub2 hP hD (ws' := []) [] (by decide +kernel) rfl
    exact W.lret (v := r_3) hx hb hr (fun tZ ht hW => ⟨⟨r_3, (), rfl, (show ¬ r_3.toInt = 0 from by omega), by rw [ht]; exact hP9, va_K.moved hW.alike hK, hD9⟩, hS.F ht⟩) hS.2.2 dX12_common_17
  · skip
    have zh_1 : p1.toInt = 0 := zL_eq h_1 rfl rfl
    refine lv_lload_n hx hb dX12_common_6 rfl (lv_at hl 0 rfl) ?_
    refine lv_goto (tgt := 17) hx hb dX12_common_7 (by decide) ?_
    obtain ⟨hP9, hD9⟩ := sub2 hP hD (ws' := []) [] (by decide +kernel) rfl
    exact W.lret (v := p0) hx hb hr (fun tZ ht hW => ⟨⟨p0, (), rfl, (show ¬ p0.toInt = 0 from by omega), by rw [ht]; exact hP9, va_K.moved hW.alike hK, hD9⟩, hS.F ht⟩) hS.2.2 dX12_common_17
set_option maxHeartbeats 4000000 in
set_option maxRecDepth 100000 in
theorem c_X12_common_8 (l : Launch) (D : va_G) (k : Nat → ClassId) (p0 : Int64) (p1 : Int64) (sz : Nat) (hk : 3 * (p0.toInt.natAbs : Int) + 2 * (p1.toInt.natAbs : Int) ≤ 139 ∧ p1.toInt.natAbs ≤ p0.toInt.natAbs ∧ ¬ p0.toInt = 0) : Met l yX12_common (ww yX12_common cX12_common 4 (some .long)) ({ frames := 8, cells := 0, slots := 0, locals := 184 }) (Pre0 D k [] sz [.long p0, .long p1]) (va_Ql (fun (r : Int64) (_ : Unit) => (¬ r.toInt = 0)) (fun (_ : Unit) tZ => Bw D k (va_A [] sz) [] tZ) (va_A [] sz)) 0 0 (va_A [] sz) := by
  refine Met.ofW (cc := cX12_common) (maxL := 4) (ret := (some .long)) (by decide +kernel) rfl ?_
  intro p e s m args below meth c s₁ B hml hv
  obtain ⟨rfl, hsz, hP, hK, hD0, hN⟩ := hv
  have hx := B.exec
  have hb := B.bytes
  have hr := B.returns
  have hts : ∀ w ∈ TT, w.before _ s = true := fun w h => atoms_spec (ws := ww yX12_common cX12_common 4 (some .long)) B.pre w (List.mem_cons_of_mem _ h)
  have hown : s.vm.findClass RX12 = some m.cls := findClass_of_methodNamed B.named
  have hlocks := B.notSynchronized
  subst hsz
  have hD := hD0.self (sz := s.heap.size)
  generalize hAe : va_A [] s.heap.size = A at hD ⊢
  have hA : ∀ q : Nat, s.heap.size ≤ q → A q := fun q h => by rw [← hAe]; exact Or.inr h
  have hS : va_S A s.heap s.heap [] := va_S.rf
  have hl := lv_entry ([.long p0, .long p1]) (n := 4) (Nat.le_of_ble_eq_true rfl)
  rw [lg_entry_eq]
  generalize (lg_sl ([.long p0, .long p1]) ++ List.replicate (4 - (lg_sl ([.long p0, .long p1])).length) Slot.unset).toArray = ls at hl ⊢
  have hl : lv_has ls 4 [(0, .long p0), (2, .long p1)] := hl
  refine lv_lload_n hx hb dX12_common_0 rfl (lv_at hl 1 rfl) ?_
  refine lv_lconst (v := 0) hx hb dX12_common_1 (by decide) ?_
  refine W.lcmp hx hb dX12_common_2 ?_
  refine lv_if_ne (tgt := 10) hx hb dX12_common_3 (by decide) (fun h_1 => ?_) (fun h_1 => ?_)
  · skip
    have zh_1 : ¬ p1.toInt = 0 := zL_ne h_1 rfl rfl
    refine lv_lload_n hx hb dX12_common_10 rfl (lv_at hl 1 rfl) ?_
    refine lv_lload_n hx hb dX12_common_11 rfl (lv_at hl 0 rfl) ?_
    refine lv_lload_n hx hb dX12_common_12 rfl (lv_at hl 1 rfl) ?_
    refine lv_lrem hx hb dX12_common_13 (fun q9 => by have := congrArg (fun v : Int64 => v.toInt) q9; simp at this; omega) ?_
    refine lv_topl (fun x_2 ex_2 => ?_)
    have zx_2 := zl_rem ex_2 (by omega)
    obtain ⟨hPc, hDc, hFc⟩ := sub3 hP hD hS hA (ws' := []) [] (by decide +kernel) rfl
    refine va_calll (va_runS (As := [.long p1, .long x_2]) (rest := []) ⟨hx, hb, hml, hown, hts⟩ (c_X12_common_7 l D k p1 x_2 s.heap.size (show 3 * (p1.toInt.natAbs : Int) + 2 * (x_2.toInt.natAbs : Int) ≤ 92 ∧ x_2.toInt.natAbs ≤ p1.toInt.natAbs ∧ ¬ p1.toInt = 0 from by omega)) (va_cwS 2 hts (gS tw_8_192 tw_8_193 tw_1_13 tw_8_194) rfl rfl rfl hdS_X12_common ⟨Nat.le_of_ble_eq_true rfl, Nat.le_of_ble_eq_true rfl⟩) (cz_S hK hPc hDc hN [.long p1, .long x_2]) rfl rfl hl.1 rfl (lv_room (Nat.le_of_ble_eq_true rfl)) dX12_common_14 ⟨Nat.le_of_ble_eq_true rfl, Nat.le_of_ble_eq_true rfl⟩) hS (fun q _ h => hFc q h) hFc (fun r_3 uZ tZ H1 locs ht hvm hw hB hz1 hk1 hS => ?_)
    obtain ⟨hP1, hK1, hD1⟩ := hB
    rw [ht] at hP1
    obtain ⟨hP, hD⟩ := va_join (wr := []) (w1 := []) hP hD [] [] rfl rfl (by decide +kernel) (by decide +kernel) hk1 hFc hP1 hD1
    clear hK1 hP1 hD1 hPc hDc hFc
    clear hk1 hz1 ht hvm
    have hP : va_P D vwCl [] H1 := hP
    have hD : va_D A [] := hD
    generalize H1 = H at hP hS ⊢
    have hw_4 : (¬ r_3.toInt = 0) := hw
    have hw_5 := hw_4
    clear hw
    obtain ⟨hP9, hD9⟩ := sub2 hP hD (ws' := []) [] (by decide +kernel) rfl
    exact W.lret (v := r_3) hx hb hr (fun tZ ht hW => ⟨⟨r_3, (), rfl, (show ¬ r_3.toInt = 0 from by omega), by rw [ht]; exact hP9, va_K.moved hW.alike hK, hD9⟩, hS.F ht⟩) hS.2.2 dX12_common_17
  · skip
    have zh_1 : p1.toInt = 0 := zL_eq h_1 rfl rfl
    refine lv_lload_n hx hb dX12_common_6 rfl (lv_at hl 0 rfl) ?_
    refine lv_goto (tgt := 17) hx hb dX12_common_7 (by decide) ?_
    obtain ⟨hP9, hD9⟩ := sub2 hP hD (ws' := []) [] (by decide +kernel) rfl
    exact W.lret (v := p0) hx hb hr (fun tZ ht hW => ⟨⟨p0, (), rfl, (show ¬ p0.toInt = 0 from by omega), by rw [ht]; exact hP9, va_K.moved hW.alike hK, hD9⟩, hS.F ht⟩) hS.2.2 dX12_common_17
set_option maxHeartbeats 4000000 in
set_option maxRecDepth 100000 in
theorem c_X12_common_9 (l : Launch) (D : va_G) (k : Nat → ClassId) (p0 : Int64) (p1 : Int64) (sz : Nat) (hk : 3 * (p0.toInt.natAbs : Int) + 2 * (p1.toInt.natAbs : Int) ≤ 209 ∧ p1.toInt.natAbs ≤ p0.toInt.natAbs ∧ ¬ p0.toInt = 0) : Met l yX12_common (ww yX12_common cX12_common 4 (some .long)) ({ frames := 9, cells := 0, slots := 0, locals := 207 }) (Pre0 D k [] sz [.long p0, .long p1]) (va_Ql (fun (r : Int64) (_ : Unit) => (¬ r.toInt = 0)) (fun (_ : Unit) tZ => Bw D k (va_A [] sz) [] tZ) (va_A [] sz)) 0 0 (va_A [] sz) := by
  refine Met.ofW (cc := cX12_common) (maxL := 4) (ret := (some .long)) (by decide +kernel) rfl ?_
  intro p e s m args below meth c s₁ B hml hv
  obtain ⟨rfl, hsz, hP, hK, hD0, hN⟩ := hv
  have hx := B.exec
  have hb := B.bytes
  have hr := B.returns
  have hts : ∀ w ∈ TT, w.before _ s = true := fun w h => atoms_spec (ws := ww yX12_common cX12_common 4 (some .long)) B.pre w (List.mem_cons_of_mem _ h)
  have hown : s.vm.findClass RX12 = some m.cls := findClass_of_methodNamed B.named
  have hlocks := B.notSynchronized
  subst hsz
  have hD := hD0.self (sz := s.heap.size)
  generalize hAe : va_A [] s.heap.size = A at hD ⊢
  have hA : ∀ q : Nat, s.heap.size ≤ q → A q := fun q h => by rw [← hAe]; exact Or.inr h
  have hS : va_S A s.heap s.heap [] := va_S.rf
  have hl := lv_entry ([.long p0, .long p1]) (n := 4) (Nat.le_of_ble_eq_true rfl)
  rw [lg_entry_eq]
  generalize (lg_sl ([.long p0, .long p1]) ++ List.replicate (4 - (lg_sl ([.long p0, .long p1])).length) Slot.unset).toArray = ls at hl ⊢
  have hl : lv_has ls 4 [(0, .long p0), (2, .long p1)] := hl
  refine lv_lload_n hx hb dX12_common_0 rfl (lv_at hl 1 rfl) ?_
  refine lv_lconst (v := 0) hx hb dX12_common_1 (by decide) ?_
  refine W.lcmp hx hb dX12_common_2 ?_
  refine lv_if_ne (tgt := 10) hx hb dX12_common_3 (by decide) (fun h_1 => ?_) (fun h_1 => ?_)
  · skip
    have zh_1 : ¬ p1.toInt = 0 := zL_ne h_1 rfl rfl
    refine lv_lload_n hx hb dX12_common_10 rfl (lv_at hl 1 rfl) ?_
    refine lv_lload_n hx hb dX12_common_11 rfl (lv_at hl 0 rfl) ?_
    refine lv_lload_n hx hb dX12_common_12 rfl (lv_at hl 1 rfl) ?_
    refine lv_lrem hx hb dX12_common_13 (fun q9 => by have := congrArg (fun v : Int64 => v.toInt) q9; simp at this; omega) ?_
    refine lv_topl (fun x_2 ex_2 => ?_)
    have zx_2 := zl_rem ex_2 (by omega)
    obtain ⟨hPc, hDc, hFc⟩ := sub3 hP hD hS hA (ws' := []) [] (by decide +kernel) rfl
    refine va_calll (va_runS (As := [.long p1, .long x_2]) (rest := []) ⟨hx, hb, hml, hown, hts⟩ (c_X12_common_8 l D k p1 x_2 s.heap.size (show 3 * (p1.toInt.natAbs : Int) + 2 * (x_2.toInt.natAbs : Int) ≤ 139 ∧ x_2.toInt.natAbs ≤ p1.toInt.natAbs ∧ ¬ p1.toInt = 0 from by omega)) (va_cwS 2 hts (gS tw_8_192 tw_8_193 tw_1_13 tw_8_194) rfl rfl rfl hdS_X12_common ⟨Nat.le_of_ble_eq_true rfl, Nat.le_of_ble_eq_true rfl⟩) (cz_S hK hPc hDc hN [.long p1, .long x_2]) rfl rfl hl.1 rfl (lv_room (Nat.le_of_ble_eq_true rfl)) dX12_common_14 ⟨Nat.le_of_ble_eq_true rfl, Nat.le_of_ble_eq_true rfl⟩) hS (fun q _ h => hFc q h) hFc (fun r_3 uZ tZ H1 locs ht hvm hw hB hz1 hk1 hS => ?_)
    obtain ⟨hP1, hK1, hD1⟩ := hB
    rw [ht] at hP1
    obtain ⟨hP, hD⟩ := va_join (wr := []) (w1 := []) hP hD [] [] rfl rfl (by decide +kernel) (by decide +kernel) hk1 hFc hP1 hD1
    clear hK1 hP1 hD1 hPc hDc hFc
    clear hk1 hz1 ht hvm
    have hP : va_P D vwCl [] H1 := hP
    have hD : va_D A [] := hD
    generalize H1 = H at hP hS ⊢
    have hw_4 : (¬ r_3.toInt = 0) := hw
    have hw_5 := hw_4
    clear hw
    obtain ⟨hP9, hD9⟩ := sub2 hP hD (ws' := []) [] (by decide +kernel) rfl
    exact W.lret (v := r_3) hx hb hr (fun tZ ht hW => ⟨⟨r_3, (), rfl, (show ¬ r_3.toInt = 0 from by omega), by rw [ht]; exact hP9, va_K.moved hW.alike hK, hD9⟩, hS.F ht⟩) hS.2.2 dX12_common_17
  · skip
    have zh_1 : p1.toInt = 0 := zL_eq h_1 rfl rfl
    refine lv_lload_n hx hb dX12_common_6 rfl (lv_at hl 0 rfl) ?_
    refine lv_goto (tgt := 17) hx hb dX12_common_7 (by decide) ?_
    obtain ⟨hP9, hD9⟩ := sub2 hP hD (ws' := []) [] (by decide +kernel) rfl
    exact W.lret (v := p0) hx hb hr (fun tZ ht hW => ⟨⟨p0, (), rfl, (show ¬ p0.toInt = 0 from by omega), by rw [ht]; exact hP9, va_K.moved hW.alike hK, hD9⟩, hS.F ht⟩) hS.2.2 dX12_common_17
set_option maxHeartbeats 4000000 in
set_option maxRecDepth 100000 in
theorem c_X12_common_10 (l : Launch) (D : va_G) (k : Nat → ClassId) (p0 : Int64) (p1 : Int64) (sz : Nat) (hk : 3 * (p0.toInt.natAbs : Int) + 2 * (p1.toInt.natAbs : Int) ≤ 314 ∧ p1.toInt.natAbs ≤ p0.toInt.natAbs ∧ ¬ p0.toInt = 0) : Met l yX12_common (ww yX12_common cX12_common 4 (some .long)) ({ frames := 10, cells := 0, slots := 0, locals := 230 }) (Pre0 D k [] sz [.long p0, .long p1]) (va_Ql (fun (r : Int64) (_ : Unit) => (¬ r.toInt = 0)) (fun (_ : Unit) tZ => Bw D k (va_A [] sz) [] tZ) (va_A [] sz)) 0 0 (va_A [] sz) := by
  refine Met.ofW (cc := cX12_common) (maxL := 4) (ret := (some .long)) (by decide +kernel) rfl ?_
  intro p e s m args below meth c s₁ B hml hv
  obtain ⟨rfl, hsz, hP, hK, hD0, hN⟩ := hv
  have hx := B.exec
  have hb := B.bytes
  have hr := B.returns
  have hts : ∀ w ∈ TT, w.before _ s = true := fun w h => atoms_spec (ws := ww yX12_common cX12_common 4 (some .long)) B.pre w (List.mem_cons_of_mem _ h)
  have hown : s.vm.findClass RX12 = some m.cls := findClass_of_methodNamed B.named
  have hlocks := B.notSynchronized
  subst hsz
  have hD := hD0.self (sz := s.heap.size)
  generalize hAe : va_A [] s.heap.size = A at hD ⊢
  have hA : ∀ q : Nat, s.heap.size ≤ q → A q := fun q h => by rw [← hAe]; exact Or.inr h
  have hS : va_S A s.heap s.heap [] := va_S.rf
  have hl := lv_entry ([.long p0, .long p1]) (n := 4) (Nat.le_of_ble_eq_true rfl)
  rw [lg_entry_eq]
  generalize (lg_sl ([.long p0, .long p1]) ++ List.replicate (4 - (lg_sl ([.long p0, .long p1])).length) Slot.unset).toArray = ls at hl ⊢
  have hl : lv_has ls 4 [(0, .long p0), (2, .long p1)] := hl
  refine lv_lload_n hx hb dX12_common_0 rfl (lv_at hl 1 rfl) ?_
  refine lv_lconst (v := 0) hx hb dX12_common_1 (by decide) ?_
  refine W.lcmp hx hb dX12_common_2 ?_
  refine lv_if_ne (tgt := 10) hx hb dX12_common_3 (by decide) (fun h_1 => ?_) (fun h_1 => ?_)
  · skip
    have zh_1 : ¬ p1.toInt = 0 := zL_ne h_1 rfl rfl
    refine lv_lload_n hx hb dX12_common_10 rfl (lv_at hl 1 rfl) ?_
    refine lv_lload_n hx hb dX12_common_11 rfl (lv_at hl 0 rfl) ?_
    refine lv_lload_n hx hb dX12_common_12 rfl (lv_at hl 1 rfl) ?_
    refine lv_lrem hx hb dX12_common_13 (fun q9 => by have := congrArg (fun v : Int64 => v.toInt) q9; simp at this; omega) ?_
    refine lv_topl (fun x_2 ex_2 => ?_)
    have zx_2 := zl_rem ex_2 (by omega)
    obtain ⟨hPc, hDc, hFc⟩ := sub3 hP hD hS hA (ws' := []) [] (by decide +kernel) rfl
    refine va_calll (va_runS (As := [.long p1, .long x_2]) (rest := []) ⟨hx, hb, hml, hown, hts⟩ (c_X12_common_9 l D k p1 x_2 s.heap.size (show 3 * (p1.toInt.natAbs : Int) + 2 * (x_2.toInt.natAbs : Int) ≤ 209 ∧ x_2.toInt.natAbs ≤ p1.toInt.natAbs ∧ ¬ p1.toInt = 0 from by omega)) (va_cwS 2 hts (gS tw_8_192 tw_8_193 tw_1_13 tw_8_194) rfl rfl rfl hdS_X12_common ⟨Nat.le_of_ble_eq_true rfl, Nat.le_of_ble_eq_true rfl⟩) (cz_S hK hPc hDc hN [.long p1, .long x_2]) rfl rfl hl.1 rfl (lv_room (Nat.le_of_ble_eq_true rfl)) dX12_common_14 ⟨Nat.le_of_ble_eq_true rfl, Nat.le_of_ble_eq_true rfl⟩) hS (fun q _ h => hFc q h) hFc (fun r_3 uZ tZ H1 locs ht hvm hw hB hz1 hk1 hS => ?_)
    obtain ⟨hP1, hK1, hD1⟩ := hB
    rw [ht] at hP1
    obtain ⟨hP, hD⟩ := va_join (wr := []) (w1 := []) hP hD [] [] rfl rfl (by decide +kernel) (by decide +kernel) hk1 hFc hP1 hD1
    clear hK1 hP1 hD1 hPc hDc hFc
    clear hk1 hz1 ht hvm
    have hP : va_P D vwCl [] H1 := hP
    have hD : va_D A [] := hD
    generalize H1 = H at hP hS ⊢
    have hw_4 : (¬ r_3.toInt = 0) := hw
    have hw_5 := hw_4
    clear hw
    obtain ⟨hP9, hD9⟩ := sub2 hP hD (ws' := []) [] (by decide +kernel) rfl
    exact W.lret (v := r_3) hx hb hr (fun tZ ht hW => ⟨⟨r_3, (), rfl, (show ¬ r_3.toInt = 0 from by omega), by rw [ht]; exact hP9, va_K.moved hW.alike hK, hD9⟩, hS.F ht⟩) hS.2.2 dX12_common_17
  · skip
    have zh_1 : p1.toInt = 0 := zL_eq h_1 rfl rfl
    refine lv_lload_n hx hb dX12_common_6 rfl (lv_at hl 0 rfl) ?_
    refine lv_goto (tgt := 17) hx hb dX12_common_7 (by decide) ?_
    obtain ⟨hP9, hD9⟩ := sub2 hP hD (ws' := []) [] (by decide +kernel) rfl
    exact W.lret (v := p0) hx hb hr (fun tZ ht hW => ⟨⟨p0, (), rfl, (show ¬ p0.toInt = 0 from by omega), by rw [ht]; exact hP9, va_K.moved hW.alike hK, hD9⟩, hS.F ht⟩) hS.2.2 dX12_common_17
set_option maxHeartbeats 4000000 in
set_option maxRecDepth 100000 in
theorem c_X12_common_11 (l : Launch) (D : va_G) (k : Nat → ClassId) (p0 : Int64) (p1 : Int64) (sz : Nat) (hk : 3 * (p0.toInt.natAbs : Int) + 2 * (p1.toInt.natAbs : Int) ≤ 472 ∧ p1.toInt.natAbs ≤ p0.toInt.natAbs ∧ ¬ p0.toInt = 0) : Met l yX12_common (ww yX12_common cX12_common 4 (some .long)) ({ frames := 11, cells := 0, slots := 0, locals := 253 }) (Pre0 D k [] sz [.long p0, .long p1]) (va_Ql (fun (r : Int64) (_ : Unit) => (¬ r.toInt = 0)) (fun (_ : Unit) tZ => Bw D k (va_A [] sz) [] tZ) (va_A [] sz)) 0 0 (va_A [] sz) := by
  refine Met.ofW (cc := cX12_common) (maxL := 4) (ret := (some .long)) (by decide +kernel) rfl ?_
  intro p e s m args below meth c s₁ B hml hv
  obtain ⟨rfl, hsz, hP, hK, hD0, hN⟩ := hv
  have hx := B.exec
  have hb := B.bytes
  have hr := B.returns
  have hts : ∀ w ∈ TT, w.before _ s = true := fun w h => atoms_spec (ws := ww yX12_common cX12_common 4 (some .long)) B.pre w (List.mem_cons_of_mem _ h)
  have hown : s.vm.findClass RX12 = some m.cls := findClass_of_methodNamed B.named
  have hlocks := B.notSynchronized
  subst hsz
  have hD := hD0.self (sz := s.heap.size)
  generalize hAe : va_A [] s.heap.size = A at hD ⊢
  have hA : ∀ q : Nat, s.heap.size ≤ q → A q := fun q h => by rw [← hAe]; exact Or.inr h
  have hS : va_S A s.heap s.heap [] := va_S.rf
  have hl := lv_entry ([.long p0, .long p1]) (n := 4) (Nat.le_of_ble_eq_true rfl)
  rw [lg_entry_eq]
  generalize (lg_sl ([.long p0, .long p1]) ++ List.replicate (4 - (lg_sl ([.long p0, .long p1])).length) Slot.unset).toArray = ls at hl ⊢
  have hl : lv_has ls 4 [(0, .long p0), (2, .long p1)] := hl
  refine lv_lload_n hx hb dX12_common_0 rfl (lv_at hl 1 rfl) ?_
  refine lv_lconst (v := 0) hx hb dX12_common_1 (by decide) ?_
  refine W.lcmp hx hb dX12_common_2 ?_
  refine lv_if_ne (tgt := 10) hx hb dX12_common_3 (by decide) (fun h_1 => ?_) (fun h_1 => ?_)
  · skip
    have zh_1 : ¬ p1.toInt = 0 := zL_ne h_1 rfl rfl
    refine lv_lload_n hx hb dX12_common_10 rfl (lv_at hl 1 rfl) ?_
    refine lv_lload_n hx hb dX12_common_11 rfl (lv_at hl 0 rfl) ?_
    refine lv_lload_n hx hb dX12_common_12 rfl (lv_at hl 1 rfl) ?_
    refine lv_lrem hx hb dX12_common_13 (fun q9 => by have := congrArg (fun v : Int64 => v.toInt) q9; simp at this; omega) ?_
    refine lv_topl (fun x_2 ex_2 => ?_)
    have zx_2 := zl_rem ex_2 (by omega)
    obtain ⟨hPc, hDc, hFc⟩ := sub3 hP hD hS hA (ws' := []) [] (by decide +kernel) rfl
    refine va_calll (va_runS (As := [.long p1, .long x_2]) (rest := []) ⟨hx, hb, hml, hown, hts⟩ (c_X12_common_10 l D k p1 x_2 s.heap.size (show 3 * (p1.toInt.natAbs : Int) + 2 * (x_2.toInt.natAbs : Int) ≤ 314 ∧ x_2.toInt.natAbs ≤ p1.toInt.natAbs ∧ ¬ p1.toInt = 0 from by omega)) (va_cwS 2 hts (gS tw_8_192 tw_8_193 tw_1_13 tw_8_194) rfl rfl rfl hdS_X12_common ⟨Nat.le_of_ble_eq_true rfl, Nat.le_of_ble_eq_true rfl⟩) (cz_S hK hPc hDc hN [.long p1, .long x_2]) rfl rfl hl.1 rfl (lv_room (Nat.le_of_ble_eq_true rfl)) dX12_common_14 ⟨Nat.le_of_ble_eq_true rfl, Nat.le_of_ble_eq_true rfl⟩) hS (fun q _ h => hFc q h) hFc (fun r_3 uZ tZ H1 locs ht hvm hw hB hz1 hk1 hS => ?_)
    obtain ⟨hP1, hK1, hD1⟩ := hB
    rw [ht] at hP1
    obtain ⟨hP, hD⟩ := va_join (wr := []) (w1 := []) hP hD [] [] rfl rfl (by decide +kernel) (by decide +kernel) hk1 hFc hP1 hD1
    clear hK1 hP1 hD1 hPc hDc hFc
    clear hk1 hz1 ht hvm
    have hP : va_P D vwCl [] H1 := hP
    have hD : va_D A [] := hD
    generalize H1 = H at hP hS ⊢
    have hw_4 : (¬ r_3.toInt = 0) := hw
    have hw_5 := hw_4
    clear hw
    obtain ⟨hP9, hD9⟩ := sub2 hP hD (ws' := []) [] (by decide +kernel) rfl
    exact W.lret (v := r_3) hx hb hr (fun tZ ht hW => ⟨⟨r_3, (), rfl, (show ¬ r_3.toInt = 0 from by omega), by rw [ht]; exact hP9, va_K.moved hW.alike hK, hD9⟩, hS.F ht⟩) hS.2.2 dX12_common_17
  · skip
    have zh_1 : p1.toInt = 0 := zL_eq h_1 rfl rfl
    refine lv_lload_n hx hb dX12_common_6 rfl (lv_at hl 0 rfl) ?_
    refine lv_goto (tgt := 17) hx hb dX12_common_7 (by decide) ?_
    obtain ⟨hP9, hD9⟩ := sub2 hP hD (ws' := []) [] (by decide +kernel) rfl
    exact W.lret (v := p0) hx hb hr (fun tZ ht hW => ⟨⟨p0, (), rfl, (show ¬ p0.toInt = 0 from by omega), by rw [ht]; exact hP9, va_K.moved hW.alike hK, hD9⟩, hS.F ht⟩) hS.2.2 dX12_common_17
set_option maxHeartbeats 4000000 in
set_option maxRecDepth 100000 in
theorem c_X12_common_12 (l : Launch) (D : va_G) (k : Nat → ClassId) (p0 : Int64) (p1 : Int64) (sz : Nat) (hk : 3 * (p0.toInt.natAbs : Int) + 2 * (p1.toInt.natAbs : Int) ≤ 709 ∧ p1.toInt.natAbs ≤ p0.toInt.natAbs ∧ ¬ p0.toInt = 0) : Met l yX12_common (ww yX12_common cX12_common 4 (some .long)) ({ frames := 12, cells := 0, slots := 0, locals := 276 }) (Pre0 D k [] sz [.long p0, .long p1]) (va_Ql (fun (r : Int64) (_ : Unit) => (¬ r.toInt = 0)) (fun (_ : Unit) tZ => Bw D k (va_A [] sz) [] tZ) (va_A [] sz)) 0 0 (va_A [] sz) := by
  refine Met.ofW (cc := cX12_common) (maxL := 4) (ret := (some .long)) (by decide +kernel) rfl ?_
  intro p e s m args below meth c s₁ B hml hv
  obtain ⟨rfl, hsz, hP, hK, hD0, hN⟩ := hv
  have hx := B.exec
  have hb := B.bytes
  have hr := B.returns
  have hts : ∀ w ∈ TT, w.before _ s = true := fun w h => atoms_spec (ws := ww yX12_common cX12_common 4 (some .long)) B.pre w (List.mem_cons_of_mem _ h)
  have hown : s.vm.findClass RX12 = some m.cls := findClass_of_methodNamed B.named
  have hlocks := B.notSynchronized
  subst hsz
  have hD := hD0.self (sz := s.heap.size)
  generalize hAe : va_A [] s.heap.size = A at hD ⊢
  have hA : ∀ q : Nat, s.heap.size ≤ q → A q := fun q h => by rw [← hAe]; exact Or.inr h
  have hS : va_S A s.heap s.heap [] := va_S.rf
  have hl := lv_entry ([.long p0, .long p1]) (n := 4) (Nat.le_of_ble_eq_true rfl)
  rw [lg_entry_eq]
  generalize (lg_sl ([.long p0, .long p1]) ++ List.replicate (4 - (lg_sl ([.long p0, .long p1])).length) Slot.unset).toArray = ls at hl ⊢
  have hl : lv_has ls 4 [(0, .long p0), (2, .long p1)] := hl
  refine lv_lload_n hx hb dX12_common_0 rfl (lv_at hl 1 rfl) ?_
  refine lv_lconst (v := 0) hx hb dX12_common_1 (by decide) ?_
  refine W.lcmp hx hb dX12_common_2 ?_
  refine lv_if_ne (tgt := 10) hx hb dX12_common_3 (by decide) (fun h_1 => ?_) (fun h_1 => ?_)
  · skip
    have zh_1 : ¬ p1.toInt = 0 := zL_ne h_1 rfl rfl
    refine lv_lload_n hx hb dX12_common_10 rfl (lv_at hl 1 rfl) ?_
    refine lv_lload_n hx hb dX12_common_11 rfl (lv_at hl 0 rfl) ?_
    refine lv_lload_n hx hb dX12_common_12 rfl (lv_at hl 1 rfl) ?_
    refine lv_lrem hx hb dX12_common_13 (fun q9 => by have := congrArg (fun v : Int64 => v.toInt) q9; simp at this; omega) ?_
    refine lv_topl (fun x_2 ex_2 => ?_)
    have zx_2 := zl_rem ex_2 (by omega)
    obtain ⟨hPc, hDc, hFc⟩ := sub3 hP hD hS hA (ws' := []) [] (by decide +kernel) rfl
    refine va_calll (va_runS (As := [.long p1, .long x_2]) (rest := []) ⟨hx, hb, hml, hown, hts⟩ (c_X12_common_11 l D k p1 x_2 s.heap.size (show 3 * (p1.toInt.natAbs : Int) + 2 * (x_2.toInt.natAbs : Int) ≤ 472 ∧ x_2.toInt.natAbs ≤ p1.toInt.natAbs ∧ ¬ p1.toInt = 0 from by omega)) (va_cwS 2 hts (gS tw_8_192 tw_8_193 tw_1_13 tw_8_194) rfl rfl rfl hdS_X12_common ⟨Nat.le_of_ble_eq_true rfl, Nat.le_of_ble_eq_true rfl⟩) (cz_S hK hPc hDc hN [.long p1, .long x_2]) rfl rfl hl.1 rfl (lv_room (Nat.le_of_ble_eq_true rfl)) dX12_common_14 ⟨Nat.le_of_ble_eq_true rfl, Nat.le_of_ble_eq_true rfl⟩) hS (fun q _ h => hFc q h) hFc (fun r_3 uZ tZ H1 locs ht hvm hw hB hz1 hk1 hS => ?_)
    obtain ⟨hP1, hK1, hD1⟩ := hB
    rw [ht] at hP1
    obtain ⟨hP, hD⟩ := va_join (wr := []) (w1 := []) hP hD [] [] rfl rfl (by decide +kernel) (by decide +kernel) hk1 hFc hP1 hD1
    clear hK1 hP1 hD1 hPc hDc hFc
    clear hk1 hz1 ht hvm
    have hP : va_P D vwCl [] H1 := hP
    have hD : va_D A [] := hD
    generalize H1 = H at hP hS ⊢
    have hw_4 : (¬ r_3.toInt = 0) := hw
    have hw_5 := hw_4
    clear hw
    obtain ⟨hP9, hD9⟩ := sub2 hP hD (ws' := []) [] (by decide +kernel) rfl
    exact W.lret (v := r_3) hx hb hr (fun tZ ht hW => ⟨⟨r_3, (), rfl, (show ¬ r_3.toInt = 0 from by omega), by rw [ht]; exact hP9, va_K.moved hW.alike hK, hD9⟩, hS.F ht⟩) hS.2.2 dX12_common_17
  · skip
    have zh_1 : p1.toInt = 0 := zL_eq h_1 rfl rfl
    refine lv_lload_n hx hb dX12_common_6 rfl (lv_at hl 0 rfl) ?_
    refine lv_goto (tgt := 17) hx hb dX12_common_7 (by decide) ?_
    obtain ⟨hP9, hD9⟩ := sub2 hP hD (ws' := []) [] (by decide +kernel) rfl
    exact W.lret (v := p0) hx hb hr (fun tZ ht hW => ⟨⟨p0, (), rfl, (show ¬ p0.toInt = 0 from by omega), by rw [ht]; exact hP9, va_K.moved hW.alike hK, hD9⟩, hS.F ht⟩) hS.2.2 dX12_common_17
set_option maxHeartbeats 4000000 in
set_option maxRecDepth 100000 in
theorem c_X12_common_13 (l : Launch) (D : va_G) (k : Nat → ClassId) (p0 : Int64) (p1 : Int64) (sz : Nat) (hk : 3 * (p0.toInt.natAbs : Int) + 2 * (p1.toInt.natAbs : Int) ≤ 1064 ∧ p1.toInt.natAbs ≤ p0.toInt.natAbs ∧ ¬ p0.toInt = 0) : Met l yX12_common (ww yX12_common cX12_common 4 (some .long)) ({ frames := 13, cells := 0, slots := 0, locals := 299 }) (Pre0 D k [] sz [.long p0, .long p1]) (va_Ql (fun (r : Int64) (_ : Unit) => (¬ r.toInt = 0)) (fun (_ : Unit) tZ => Bw D k (va_A [] sz) [] tZ) (va_A [] sz)) 0 0 (va_A [] sz) := by
  refine Met.ofW (cc := cX12_common) (maxL := 4) (ret := (some .long)) (by decide +kernel) rfl ?_
  intro p e s m args below meth c s₁ B hml hv
  obtain ⟨rfl, hsz, hP, hK, hD0, hN⟩ := hv
  have hx := B.exec
  have hb := B.bytes
  have hr := B.returns
  have hts : ∀ w ∈ TT, w.before _ s = true := fun w h => atoms_spec (ws := ww yX12_common cX12_common 4 (some .long)) B.pre w (List.mem_cons_of_mem _ h)
  have hown : s.vm.findClass RX12 = some m.cls := findClass_of_methodNamed B.named
  have hlocks := B.notSynchronized
  subst hsz
  have hD := hD0.self (sz := s.heap.size)
  generalize hAe : va_A [] s.heap.size = A at hD ⊢
  have hA : ∀ q : Nat, s.heap.size ≤ q → A q := fun q h => by rw [← hAe]; exact Or.inr h
  have hS : va_S A s.heap s.heap [] := va_S.rf
  have hl := lv_entry ([.long p0, .long p1]) (n := 4) (Nat.le_of_ble_eq_true rfl)
  rw [lg_entry_eq]
  generalize (lg_sl ([.long p0, .long p1]) ++ List.replicate (4 - (lg_sl ([.long p0, .long p1])).length) Slot.unset).toArray = ls at hl ⊢
  have hl : lv_has ls 4 [(0, .long p0), (2, .long p1)] := hl
  refine lv_lload_n hx hb dX12_common_0 rfl (lv_at hl 1 rfl) ?_
  refine lv_lconst (v := 0) hx hb dX12_common_1 (by decide) ?_
  refine W.lcmp hx hb dX12_common_2 ?_
  refine lv_if_ne (tgt := 10) hx hb dX12_common_3 (by decide) (fun h_1 => ?_) (fun h_1 => ?_)
  · skip
    have zh_1 : ¬ p1.toInt = 0 := zL_ne h_1 rfl rfl
    refine lv_lload_n hx hb dX12_common_10 rfl (lv_at hl 1 rfl) ?_
    refine lv_lload_n hx hb dX12_common_11 rfl (lv_at hl 0 rfl) ?_
    refine lv_lload_n hx hb dX12_common_12 rfl (lv_at hl 1 rfl) ?_
    refine lv_lrem hx hb dX12_common_13 (fun q9 => by have := congrArg (fun v : Int64 => v.toInt) q9; simp at this; omega) ?_
    refine lv_topl (fun x_2 ex_2 => ?_)
    have zx_2 := zl_rem ex_2 (by omega)
    obtain ⟨hPc, hDc, hFc⟩ := sub3 hP hD hS hA (ws' := []) [] (by decide +kernel) rfl
    refine va_calll (va_runS (As := [.long p1, .long x_2]) (rest := []) ⟨hx, hb, hml, hown, hts⟩ (c_X12_common_12 l D k p1 x_2 s.heap.size (show 3 * (p1.toInt.natAbs : Int) + 2 * (x_2.toInt.natAbs : Int) ≤ 709 ∧ x_2.toInt.natAbs ≤ p1.toInt.natAbs ∧ ¬ p1.toInt = 0 from by omega)) (va_cwS 2 hts (gS tw_8_192 tw_8_193 tw_1_13 tw_8_194) rfl rfl rfl hdS_X12_common ⟨Nat.le_of_ble_eq_true rfl, Nat.le_of_ble_eq_true rfl⟩) (cz_S hK hPc hDc hN [.long p1, .long x_2]) rfl rfl hl.1 rfl (lv_room (Nat.le_of_ble_eq_true rfl)) dX12_common_14 ⟨Nat.le_of_ble_eq_true rfl, Nat.le_of_ble_eq_true rfl⟩) hS (fun q _ h => hFc q h) hFc (fun r_3 uZ tZ H1 locs ht hvm hw hB hz1 hk1 hS => ?_)
    obtain ⟨hP1, hK1, hD1⟩ := hB
    rw [ht] at hP1
    obtain ⟨hP, hD⟩ := va_join (wr := []) (w1 := []) hP hD [] [] rfl rfl (by decide +kernel) (by decide +kernel) hk1 hFc hP1 hD1
    clear hK1 hP1 hD1 hPc hDc hFc
    clear hk1 hz1 ht hvm
    have hP : va_P D vwCl [] H1 := hP
    have hD : va_D A [] := hD
    generalize H1 = H at hP hS ⊢
    have hw_4 : (¬ r_3.toInt = 0) := hw
    have hw_5 := hw_4
    clear hw
    obtain ⟨hP9, hD9⟩ := sub2 hP hD (ws' := []) [] (by decide +kernel) rfl
    exact W.lret (v := r_3) hx hb hr (fun tZ ht hW => ⟨⟨r_3, (), rfl, (show ¬ r_3.toInt = 0 from by omega), by rw [ht]; exact hP9, va_K.moved hW.alike hK, hD9⟩, hS.F ht⟩) hS.2.2 dX12_common_17
  · skip
    have zh_1 : p1.toInt = 0 := zL_eq h_1 rfl rfl
    refine lv_lload_n hx hb dX12_common_6 rfl (lv_at hl 0 rfl) ?_
    refine lv_goto (tgt := 17) hx hb dX12_common_7 (by decide) ?_
    obtain ⟨hP9, hD9⟩ := sub2 hP hD (ws' := []) [] (by decide +kernel) rfl
    exact W.lret (v := p0) hx hb hr (fun tZ ht hW => ⟨⟨p0, (), rfl, (show ¬ p0.toInt = 0 from by omega), by rw [ht]; exact hP9, va_K.moved hW.alike hK, hD9⟩, hS.F ht⟩) hS.2.2 dX12_common_17
set_option maxHeartbeats 4000000 in
set_option maxRecDepth 100000 in
theorem c_X12_common_14 (l : Launch) (D : va_G) (k : Nat → ClassId) (p0 : Int64) (p1 : Int64) (sz : Nat) (hk : 3 * (p0.toInt.natAbs : Int) + 2 * (p1.toInt.natAbs : Int) ≤ 1597 ∧ p1.toInt.natAbs ≤ p0.toInt.natAbs ∧ ¬ p0.toInt = 0) : Met l yX12_common (ww yX12_common cX12_common 4 (some .long)) ({ frames := 14, cells := 0, slots := 0, locals := 322 }) (Pre0 D k [] sz [.long p0, .long p1]) (va_Ql (fun (r : Int64) (_ : Unit) => (¬ r.toInt = 0)) (fun (_ : Unit) tZ => Bw D k (va_A [] sz) [] tZ) (va_A [] sz)) 0 0 (va_A [] sz) := by
  refine Met.ofW (cc := cX12_common) (maxL := 4) (ret := (some .long)) (by decide +kernel) rfl ?_
  intro p e s m args below meth c s₁ B hml hv
  obtain ⟨rfl, hsz, hP, hK, hD0, hN⟩ := hv
  have hx := B.exec
  have hb := B.bytes
  have hr := B.returns
  have hts : ∀ w ∈ TT, w.before _ s = true := fun w h => atoms_spec (ws := ww yX12_common cX12_common 4 (some .long)) B.pre w (List.mem_cons_of_mem _ h)
  have hown : s.vm.findClass RX12 = some m.cls := findClass_of_methodNamed B.named
  have hlocks := B.notSynchronized
  subst hsz
  have hD := hD0.self (sz := s.heap.size)
  generalize hAe : va_A [] s.heap.size = A at hD ⊢
  have hA : ∀ q : Nat, s.heap.size ≤ q → A q := fun q h => by rw [← hAe]; exact Or.inr h
  have hS : va_S A s.heap s.heap [] := va_S.rf
  have hl := lv_entry ([.long p0, .long p1]) (n := 4) (Nat.le_of_ble_eq_true rfl)
  rw [lg_entry_eq]
  generalize (lg_sl ([.long p0, .long p1]) ++ List.replicate (4 - (lg_sl ([.long p0, .long p1])).length) Slot.unset).toArray = ls at hl ⊢
  have hl : lv_has ls 4 [(0, .long p0), (2, .long p1)] := hl
  refine lv_lload_n hx hb dX12_common_0 rfl (lv_at hl 1 rfl) ?_
  refine lv_lconst (v := 0) hx hb dX12_common_1 (by decide) ?_
  refine W.lcmp hx hb dX12_common_2 ?_
  refine lv_if_ne (tgt := 10) hx hb dX12_common_3 (by decide) (fun h_1 => ?_) (fun h_1 => ?_)
  · skip
    have zh_1 : ¬ p1.toInt = 0 := zL_ne h_1 rfl rfl
    refine lv_lload_n hx hb dX12_common_10 rfl (lv_at hl 1 rfl) ?_
    refine lv_lload_n hx hb dX12_common_11 rfl (lv_at hl 0 rfl) ?_
    refine lv_lload_n hx hb dX12_common_12 rfl (lv_at hl 1 rfl) ?_
    refine lv_lrem hx hb dX12_common_13 (fun q9 => by have := congrArg (fun v : Int64 => v.toInt) q9; simp at this; omega) ?_
    refine lv_topl (fun x_2 ex_2 => ?_)
    have zx_2 := zl_rem ex_2 (by omega)
    obtain ⟨hPc, hDc, hFc⟩ := sub3 hP hD hS hA (ws' := []) [] (by decide +kernel) rfl
    refine va_calll (va_runS (As := [.long p1, .long x_2]) (rest := []) ⟨hx, hb, hml, hown, hts⟩ (c_X12_common_13 l D k p1 x_2 s.heap.size (show 3 * (p1.toInt.natAbs : Int) + 2 * (x_2.toInt.natAbs : Int) ≤ 1064 ∧ x_2.toInt.natAbs ≤ p1.toInt.natAbs ∧ ¬ p1.toInt = 0 from by omega)) (va_cwS 2 hts (gS tw_8_192 tw_8_193 tw_1_13 tw_8_194) rfl rfl rfl hdS_X12_common ⟨Nat.le_of_ble_eq_true rfl, Nat.le_of_ble_eq_true rfl⟩) (cz_S hK hPc hDc hN [.long p1, .long x_2]) rfl rfl hl.1 rfl (lv_room (Nat.le_of_ble_eq_true rfl)) dX12_common_14 ⟨Nat.le_of_ble_eq_true rfl, Nat.le_of_ble_eq_true rfl⟩) hS (fun q _ h => hFc q h) hFc (fun r_3 uZ tZ H1 locs ht hvm hw hB hz1 hk1 hS => ?_)
    obtain ⟨hP1, hK1, hD1⟩ := hB
    rw [ht] at hP1
    obtain ⟨hP, hD⟩ := va_join (wr := []) (w1 := []) hP hD [] [] rfl rfl (by decide +kernel) (by decide +kernel) hk1 hFc hP1 hD1
    clear hK1 hP1 hD1 hPc hDc hFc
    clear hk1 hz1 ht hvm
    have hP : va_P D vwCl [] H1 := hP
    have hD : va_D A [] := hD
    generalize H1 = H at hP hS ⊢
    have hw_4 : (¬ r_3.toInt = 0) := hw
    have hw_5 := hw_4
    clear hw
    obtain ⟨hP9, hD9⟩ := sub2 hP hD (ws' := []) [] (by decide +kernel) rfl
    exact W.lret (v := r_3) hx hb hr (fun tZ ht hW => ⟨⟨r_3, (), rfl, (show ¬ r_3.toInt = 0 from by omega), by rw [ht]; exact hP9, va_K.moved hW.alike hK, hD9⟩, hS.F ht⟩) hS.2.2 dX12_common_17
  · skip
    have zh_1 : p1.toInt = 0 := zL_eq h_1 rfl rfl
    refine lv_lload_n hx hb dX12_common_6 rfl (lv_at hl 0 rfl) ?_
    refine lv_goto (tgt := 17) hx hb dX12_common_7 (by decide) ?_
    obtain ⟨hP9, hD9⟩ := sub2 hP hD (ws' := []) [] (by decide +kernel) rfl
    exact W.lret (v := p0) hx hb hr (fun tZ ht hW => ⟨⟨p0, (), rfl, (show ¬ p0.toInt = 0 from by omega), by rw [ht]; exact hP9, va_K.moved hW.alike hK, hD9⟩, hS.F ht⟩) hS.2.2 dX12_common_17
set_option maxHeartbeats 4000000 in
set_option maxRecDepth 100000 in
theorem c_X12_common_15 (l : Launch) (D : va_G) (k : Nat → ClassId) (p0 : Int64) (p1 : Int64) (sz : Nat) (hk : 3 * (p0.toInt.natAbs : Int) + 2 * (p1.toInt.natAbs : Int) ≤ 2396 ∧ p1.toInt.natAbs ≤ p0.toInt.natAbs ∧ ¬ p0.toInt = 0) : Met l yX12_common (ww yX12_common cX12_common 4 (some .long)) ({ frames := 15, cells := 0, slots := 0, locals := 345 }) (Pre0 D k [] sz [.long p0, .long p1]) (va_Ql (fun (r : Int64) (_ : Unit) => (¬ r.toInt = 0)) (fun (_ : Unit) tZ => Bw D k (va_A [] sz) [] tZ) (va_A [] sz)) 0 0 (va_A [] sz) := by
  refine Met.ofW (cc := cX12_common) (maxL := 4) (ret := (some .long)) (by decide +kernel) rfl ?_
  intro p e s m args below meth c s₁ B hml hv
  obtain ⟨rfl, hsz, hP, hK, hD0, hN⟩ := hv
  have hx := B.exec
  have hb := B.bytes
  have hr := B.returns
  have hts : ∀ w ∈ TT, w.before _ s = true := fun w h => atoms_spec (ws := ww yX12_common cX12_common 4 (some .long)) B.pre w (List.mem_cons_of_mem _ h)
  have hown : s.vm.findClass RX12 = some m.cls := findClass_of_methodNamed B.named
  have hlocks := B.notSynchronized
  subst hsz
  have hD := hD0.self (sz := s.heap.size)
  generalize hAe : va_A [] s.heap.size = A at hD ⊢
  have hA : ∀ q : Nat, s.heap.size ≤ q → A q := fun q h => by rw [← hAe]; exact Or.inr h
  have hS : va_S A s.heap s.heap [] := va_S.rf
  have hl := lv_entry ([.long p0, .long p1]) (n := 4) (Nat.le_of_ble_eq_true rfl)
  rw [lg_entry_eq]
  generalize (lg_sl ([.long p0, .long p1]) ++ List.replicate (4 - (lg_sl ([.long p0, .long p1])).length) Slot.unset).toArray = ls at hl ⊢
  have hl : lv_has ls 4 [(0, .long p0), (2, .long p1)] := hl
  refine lv_lload_n hx hb dX12_common_0 rfl (lv_at hl 1 rfl) ?_
  refine lv_lconst (v := 0) hx hb dX12_common_1 (by decide) ?_
  refine W.lcmp hx hb dX12_common_2 ?_
  refine lv_if_ne (tgt := 10) hx hb dX12_common_3 (by decide) (fun h_1 => ?_) (fun h_1 => ?_)
  · skip
    have zh_1 : ¬ p1.toInt = 0 := zL_ne h_1 rfl rfl
    refine lv_lload_n hx hb dX12_common_10 rfl (lv_at hl 1 rfl) ?_
    refine lv_lload_n hx hb dX12_common_11 rfl (lv_at hl 0 rfl) ?_
    refine lv_lload_n hx hb dX12_common_12 rfl (lv_at hl 1 rfl) ?_
    refine lv_lrem hx hb dX12_common_13 (fun q9 => by have := congrArg (fun v : Int64 => v.toInt) q9; simp at this; omega) ?_
    refine lv_topl (fun x_2 ex_2 => ?_)
    have zx_2 := zl_rem ex_2 (by omega)
    obtain ⟨hPc, hDc, hFc⟩ := sub3 hP hD hS hA (ws' := []) [] (by decide +kernel) rfl
    refine va_calll (va_runS (As := [.long p1, .long x_2]) (rest := []) ⟨hx, hb, hml, hown, hts⟩ (c_X12_common_14 l D k p1 x_2 s.heap.size (show 3 * (p1.toInt.natAbs : Int) + 2 * (x_2.toInt.natAbs : Int) ≤ 1597 ∧ x_2.toInt.natAbs ≤ p1.toInt.natAbs ∧ ¬ p1.toInt = 0 from by omega)) (va_cwS 2 hts (gS tw_8_192 tw_8_193 tw_1_13 tw_8_194) rfl rfl rfl hdS_X12_common ⟨Nat.le_of_ble_eq_true rfl, Nat.le_of_ble_eq_true rfl⟩) (cz_S hK hPc hDc hN [.long p1, .long x_2]) rfl rfl hl.1 rfl (lv_room (Nat.le_of_ble_eq_true rfl)) dX12_common_14 ⟨Nat.le_of_ble_eq_true rfl, Nat.le_of_ble_eq_true rfl⟩) hS (fun q _ h => hFc q h) hFc (fun r_3 uZ tZ H1 locs ht hvm hw hB hz1 hk1 hS => ?_)
    obtain ⟨hP1, hK1, hD1⟩ := hB
    rw [ht] at hP1
    obtain ⟨hP, hD⟩ := va_join (wr := []) (w1 := []) hP hD [] [] rfl rfl (by decide +kernel) (by decide +kernel) hk1 hFc hP1 hD1
    clear hK1 hP1 hD1 hPc hDc hFc
    clear hk1 hz1 ht hvm
    have hP : va_P D vwCl [] H1 := hP
    have hD : va_D A [] := hD
    generalize H1 = H at hP hS ⊢
    have hw_4 : (¬ r_3.toInt = 0) := hw
    have hw_5 := hw_4
    clear hw
    obtain ⟨hP9, hD9⟩ := sub2 hP hD (ws' := []) [] (by decide +kernel) rfl
    exact W.lret (v := r_3) hx hb hr (fun tZ ht hW => ⟨⟨r_3, (), rfl, (show ¬ r_3.toInt = 0 from by omega), by rw [ht]; exact hP9, va_K.moved hW.alike hK, hD9⟩, hS.F ht⟩) hS.2.2 dX12_common_17
  · skip
    have zh_1 : p1.toInt = 0 := zL_eq h_1 rfl rfl
    refine lv_lload_n hx hb dX12_common_6 rfl (lv_at hl 0 rfl) ?_
    refine lv_goto (tgt := 17) hx hb dX12_common_7 (by decide) ?_
    obtain ⟨hP9, hD9⟩ := sub2 hP hD (ws' := []) [] (by decide +kernel) rfl
    exact W.lret (v := p0) hx hb hr (fun tZ ht hW => ⟨⟨p0, (), rfl, (show ¬ p0.toInt = 0 from by omega), by rw [ht]; exact hP9, va_K.moved hW.alike hK, hD9⟩, hS.F ht⟩) hS.2.2 dX12_common_17
set_option maxHeartbeats 4000000 in
set_option maxRecDepth 100000 in
theorem c_X12_common_16 (l : Launch) (D : va_G) (k : Nat → ClassId) (p0 : Int64) (p1 : Int64) (sz : Nat) (hk : 3 * (p0.toInt.natAbs : Int) + 2 * (p1.toInt.natAbs : Int) ≤ 3595 ∧ p1.toInt.natAbs ≤ p0.toInt.natAbs ∧ ¬ p0.toInt = 0) : Met l yX12_common (ww yX12_common cX12_common 4 (some .long)) ({ frames := 16, cells := 0, slots := 0, locals := 368 }) (Pre0 D k [] sz [.long p0, .long p1]) (va_Ql (fun (r : Int64) (_ : Unit) => (¬ r.toInt = 0)) (fun (_ : Unit) tZ => Bw D k (va_A [] sz) [] tZ) (va_A [] sz)) 0 0 (va_A [] sz) := by
  refine Met.ofW (cc := cX12_common) (maxL := 4) (ret := (some .long)) (by decide +kernel) rfl ?_
  intro p e s m args below meth c s₁ B hml hv
  obtain ⟨rfl, hsz, hP, hK, hD0, hN⟩ := hv
  have hx := B.exec
  have hb := B.bytes
  have hr := B.returns
  have hts : ∀ w ∈ TT, w.before _ s = true := fun w h => atoms_spec (ws := ww yX12_common cX12_common 4 (some .long)) B.pre w (List.mem_cons_of_mem _ h)
  have hown : s.vm.findClass RX12 = some m.cls := findClass_of_methodNamed B.named
  have hlocks := B.notSynchronized
  subst hsz
  have hD := hD0.self (sz := s.heap.size)
  generalize hAe : va_A [] s.heap.size = A at hD ⊢
  have hA : ∀ q : Nat, s.heap.size ≤ q → A q := fun q h => by rw [← hAe]; exact Or.inr h
  have hS : va_S A s.heap s.heap [] := va_S.rf
  have hl := lv_entry ([.long p0, .long p1]) (n := 4) (Nat.le_of_ble_eq_true rfl)
  rw [lg_entry_eq]
  generalize (lg_sl ([.long p0, .long p1]) ++ List.replicate (4 - (lg_sl ([.long p0, .long p1])).length) Slot.unset).toArray = ls at hl ⊢
  have hl : lv_has ls 4 [(0, .long p0), (2, .long p1)] := hl
  refine lv_lload_n hx hb dX12_common_0 rfl (lv_at hl 1 rfl) ?_
  refine lv_lconst (v := 0) hx hb dX12_common_1 (by decide) ?_
  refine W.lcmp hx hb dX12_common_2 ?_
  refine lv_if_ne (tgt := 10) hx hb dX12_common_3 (by decide) (fun h_1 => ?_) (fun h_1 => ?_)
  · skip
    have zh_1 : ¬ p1.toInt = 0 := zL_ne h_1 rfl rfl
    refine lv_lload_n hx hb dX12_common_10 rfl (lv_at hl 1 rfl) ?_
    refine lv_lload_n hx hb dX12_common_11 rfl (lv_at hl 0 rfl) ?_
    refine lv_lload_n hx hb dX12_common_12 rfl (lv_at hl 1 rfl) ?_
    refine lv_lrem hx hb dX12_common_13 (fun q9 => by have := congrArg (fun v : Int64 => v.toInt) q9; simp at this; omega) ?_
    refine lv_topl (fun x_2 ex_2 => ?_)
    have zx_2 := zl_rem ex_2 (by omega)
    obtain ⟨hPc, hDc, hFc⟩ := sub3 hP hD hS hA (ws' := []) [] (by decide +kernel) rfl
    refine va_calll (va_runS (As := [.long p1, .long x_2]) (rest := []) ⟨hx, hb, hml, hown, hts⟩ (c_X12_common_15 l D k p1 x_2 s.heap.size (show 3 * (p1.toInt.natAbs : Int) + 2 * (x_2.toInt.natAbs : Int) ≤ 2396 ∧ x_2.toInt.natAbs ≤ p1.toInt.natAbs ∧ ¬ p1.toInt = 0 from by omega)) (va_cwS 2 hts (gS tw_8_192 tw_8_193 tw_1_13 tw_8_194) rfl rfl rfl hdS_X12_common ⟨Nat.le_of_ble_eq_true rfl, Nat.le_of_ble_eq_true rfl⟩) (cz_S hK hPc hDc hN [.long p1, .long x_2]) rfl rfl hl.1 rfl (lv_room (Nat.le_of_ble_eq_true rfl)) dX12_common_14 ⟨Nat.le_of_ble_eq_true rfl, Nat.le_of_ble_eq_true rfl⟩) hS (fun q _ h => hFc q h) hFc (fun r_3 uZ tZ H1 locs ht hvm hw hB hz1 hk1 hS => ?_)
    obtain ⟨hP1, hK1, hD1⟩ := hB
    rw [ht] at hP1
    obtain ⟨hP, hD⟩ := va_join (wr := []) (w1 := []) hP hD [] [] rfl rfl (by decide +kernel) (by decide +kernel) hk1 hFc hP1 hD1
    clear hK1 hP1 hD1 hPc hDc hFc
    clear hk1 hz1 ht hvm
    have hP : va_P D vwCl [] H1 := hP
    have hD : va_D A [] := hD
    generalize H1 = H at hP hS ⊢
    have hw_4 : (¬ r_3.toInt = 0) := hw
    have hw_5 := hw_4
    clear hw
    obtain ⟨hP9, hD9⟩ := sub2 hP hD (ws' := []) [] (by decide +kernel) rfl
    exact W.lret (v := r_3) hx hb hr (fun tZ ht hW => ⟨⟨r_3, (), rfl, (show ¬ r_3.toInt = 0 from by omega), by rw [ht]; exact hP9, va_K.moved hW.alike hK, hD9⟩, hS.F ht⟩) hS.2.2 dX12_common_17
  · skip
    have zh_1 : p1.toInt = 0 := zL_eq h_1 rfl rfl
    refine lv_lload_n hx hb dX12_common_6 rfl (lv_at hl 0 rfl) ?_
    refine lv_goto (tgt := 17) hx hb dX12_common_7 (by decide) ?_
    obtain ⟨hP9, hD9⟩ := sub2 hP hD (ws' := []) [] (by decide +kernel) rfl
    exact W.lret (v := p0) hx hb hr (fun tZ ht hW => ⟨⟨p0, (), rfl, (show ¬ p0.toInt = 0 from by omega), by rw [ht]; exact hP9, va_K.moved hW.alike hK, hD9⟩, hS.F ht⟩) hS.2.2 dX12_common_17
set_option maxHeartbeats 4000000 in
set_option maxRecDepth 100000 in
theorem c_X12_common_17 (l : Launch) (D : va_G) (k : Nat → ClassId) (p0 : Int64) (p1 : Int64) (sz : Nat) (hk : 3 * (p0.toInt.natAbs : Int) + 2 * (p1.toInt.natAbs : Int) ≤ 5393 ∧ p1.toInt.natAbs ≤ p0.toInt.natAbs ∧ ¬ p0.toInt = 0) : Met l yX12_common (ww yX12_common cX12_common 4 (some .long)) ({ frames := 17, cells := 0, slots := 0, locals := 391 }) (Pre0 D k [] sz [.long p0, .long p1]) (va_Ql (fun (r : Int64) (_ : Unit) => (¬ r.toInt = 0)) (fun (_ : Unit) tZ => Bw D k (va_A [] sz) [] tZ) (va_A [] sz)) 0 0 (va_A [] sz) := by
  refine Met.ofW (cc := cX12_common) (maxL := 4) (ret := (some .long)) (by decide +kernel) rfl ?_
  intro p e s m args below meth c s₁ B hml hv
  obtain ⟨rfl, hsz, hP, hK, hD0, hN⟩ := hv
  have hx := B.exec
  have hb := B.bytes
  have hr := B.returns
  have hts : ∀ w ∈ TT, w.before _ s = true := fun w h => atoms_spec (ws := ww yX12_common cX12_common 4 (some .long)) B.pre w (List.mem_cons_of_mem _ h)
  have hown : s.vm.findClass RX12 = some m.cls := findClass_of_methodNamed B.named
  have hlocks := B.notSynchronized
  subst hsz
  have hD := hD0.self (sz := s.heap.size)
  generalize hAe : va_A [] s.heap.size = A at hD ⊢
  have hA : ∀ q : Nat, s.heap.size ≤ q → A q := fun q h => by rw [← hAe]; exact Or.inr h
  have hS : va_S A s.heap s.heap [] := va_S.rf
  have hl := lv_entry ([.long p0, .long p1]) (n := 4) (Nat.le_of_ble_eq_true rfl)
  rw [lg_entry_eq]
  generalize (lg_sl ([.long p0, .long p1]) ++ List.replicate (4 - (lg_sl ([.long p0, .long p1])).length) Slot.unset).toArray = ls at hl ⊢
  have hl : lv_has ls 4 [(0, .long p0), (2, .long p1)] := hl
  refine lv_lload_n hx hb dX12_common_0 rfl (lv_at hl 1 rfl) ?_
  refine lv_lconst (v := 0) hx hb dX12_common_1 (by decide) ?_
  refine W.lcmp hx hb dX12_common_2 ?_
  refine lv_if_ne (tgt := 10) hx hb dX12_common_3 (by decide) (fun h_1 => ?_) (fun h_1 => ?_)
  · skip
    have zh_1 : ¬ p1.toInt = 0 := zL_ne h_1 rfl rfl
    refine lv_lload_n hx hb dX12_common_10 rfl (lv_at hl 1 rfl) ?_
    refine lv_lload_n hx hb dX12_common_11 rfl (lv_at hl 0 rfl) ?_
    refine lv_lload_n hx hb dX12_common_12 rfl (lv_at hl 1 rfl) ?_
    refine lv_lrem hx hb dX12_common_13 (fun q9 => by have := congrArg (fun v : Int64 => v.toInt) q9; simp at this; omega) ?_
    refine lv_topl (fun x_2 ex_2 => ?_)
    have zx_2 := zl_rem ex_2 (by omega)
    obtain ⟨hPc, hDc, hFc⟩ := sub3 hP hD hS hA (ws' := []) [] (by decide +kernel) rfl
    refine va_calll (va_runS (As := [.long p1, .long x_2]) (rest := []) ⟨hx, hb, hml, hown, hts⟩ (c_X12_common_16 l D k p1 x_2 s.heap.size (show 3 * (p1.toInt.natAbs : Int) + 2 * (x_2.toInt.natAbs : Int) ≤ 3595 ∧ x_2.toInt.natAbs ≤ p1.toInt.natAbs ∧ ¬ p1.toInt = 0 from by omega)) (va_cwS 2 hts (gS tw_8_192 tw_8_193 tw_1_13 tw_8_194) rfl rfl rfl hdS_X12_common ⟨Nat.le_of_ble_eq_true rfl, Nat.le_of_ble_eq_true rfl⟩) (cz_S hK hPc hDc hN [.long p1, .long x_2]) rfl rfl hl.1 rfl (lv_room (Nat.le_of_ble_eq_true rfl)) dX12_common_14 ⟨Nat.le_of_ble_eq_true rfl, Nat.le_of_ble_eq_true rfl⟩) hS (fun q _ h => hFc q h) hFc (fun r_3 uZ tZ H1 locs ht hvm hw hB hz1 hk1 hS => ?_)
    obtain ⟨hP1, hK1, hD1⟩ := hB
    rw [ht] at hP1
    obtain ⟨hP, hD⟩ := va_join (wr := []) (w1 := []) hP hD [] [] rfl rfl (by decide +kernel) (by decide +kernel) hk1 hFc hP1 hD1
    clear hK1 hP1 hD1 hPc hDc hFc
    clear hk1 hz1 ht hvm
    have hP : va_P D vwCl [] H1 := hP
    have hD : va_D A [] := hD
    generalize H1 = H at hP hS ⊢
    have hw_4 : (¬ r_3.toInt = 0) := hw
    have hw_5 := hw_4
    clear hw
    obtain ⟨hP9, hD9⟩ := sub2 hP hD (ws' := []) [] (by decide +kernel) rfl
    exact W.lret (v := r_3) hx hb hr (fun tZ ht hW => ⟨⟨r_3, (), rfl, (show ¬ r_3.toInt = 0 from by omega), by rw [ht]; exact hP9, va_K.moved hW.alike hK, hD9⟩, hS.F ht⟩) hS.2.2 dX12_common_17
  · skip
    have zh_1 : p1.toInt = 0 := zL_eq h_1 rfl rfl
    refine lv_lload_n hx hb dX12_common_6 rfl (lv_at hl 0 rfl) ?_
    refine lv_goto (tgt := 17) hx hb dX12_common_7 (by decide) ?_
    obtain ⟨hP9, hD9⟩ := sub2 hP hD (ws' := []) [] (by decide +kernel) rfl
    exact W.lret (v := p0) hx hb hr (fun tZ ht hW => ⟨⟨p0, (), rfl, (show ¬ p0.toInt = 0 from by omega), by rw [ht]; exact hP9, va_K.moved hW.alike hK, hD9⟩, hS.F ht⟩) hS.2.2 dX12_common_17
set_option maxHeartbeats 4000000 in
set_option maxRecDepth 100000 in
theorem c_X12_common_18 (l : Launch) (D : va_G) (k : Nat → ClassId) (p0 : Int64) (p1 : Int64) (sz : Nat) (hk : 3 * (p0.toInt.natAbs : Int) + 2 * (p1.toInt.natAbs : Int) ≤ 8090 ∧ p1.toInt.natAbs ≤ p0.toInt.natAbs ∧ ¬ p0.toInt = 0) : Met l yX12_common (ww yX12_common cX12_common 4 (some .long)) ({ frames := 18, cells := 0, slots := 0, locals := 414 }) (Pre0 D k [] sz [.long p0, .long p1]) (va_Ql (fun (r : Int64) (_ : Unit) => (¬ r.toInt = 0)) (fun (_ : Unit) tZ => Bw D k (va_A [] sz) [] tZ) (va_A [] sz)) 0 0 (va_A [] sz) := by
  refine Met.ofW (cc := cX12_common) (maxL := 4) (ret := (some .long)) (by decide +kernel) rfl ?_
  intro p e s m args below meth c s₁ B hml hv
  obtain ⟨rfl, hsz, hP, hK, hD0, hN⟩ := hv
  have hx := B.exec
  have hb := B.bytes
  have hr := B.returns
  have hts : ∀ w ∈ TT, w.before _ s = true := fun w h => atoms_spec (ws := ww yX12_common cX12_common 4 (some .long)) B.pre w (List.mem_cons_of_mem _ h)
  have hown : s.vm.findClass RX12 = some m.cls := findClass_of_methodNamed B.named
  have hlocks := B.notSynchronized
  subst hsz
  have hD := hD0.self (sz := s.heap.size)
  generalize hAe : va_A [] s.heap.size = A at hD ⊢
  have hA : ∀ q : Nat, s.heap.size ≤ q → A q := fun q h => by rw [← hAe]; exact Or.inr h
  have hS : va_S A s.heap s.heap [] := va_S.rf
  have hl := lv_entry ([.long p0, .long p1]) (n := 4) (Nat.le_of_ble_eq_true rfl)
  rw [lg_entry_eq]
  generalize (lg_sl ([.long p0, .long p1]) ++ List.replicate (4 - (lg_sl ([.long p0, .long p1])).length) Slot.unset).toArray = ls at hl ⊢
  have hl : lv_has ls 4 [(0, .long p0), (2, .long p1)] := hl
  refine lv_lload_n hx hb dX12_common_0 rfl (lv_at hl 1 rfl) ?_
  refine lv_lconst (v := 0) hx hb dX12_common_1 (by decide) ?_
  refine W.lcmp hx hb dX12_common_2 ?_
  refine lv_if_ne (tgt := 10) hx hb dX12_common_3 (by decide) (fun h_1 => ?_) (fun h_1 => ?_)
  · skip
    have zh_1 : ¬ p1.toInt = 0 := zL_ne h_1 rfl rfl
    refine lv_lload_n hx hb dX12_common_10 rfl (lv_at hl 1 rfl) ?_
    refine lv_lload_n hx hb dX12_common_11 rfl (lv_at hl 0 rfl) ?_
    refine lv_lload_n hx hb dX12_common_12 rfl (lv_at hl 1 rfl) ?_
    refine lv_lrem hx hb dX12_common_13 (fun q9 => by have := congrArg (fun v : Int64 => v.toInt) q9; simp at this; omega) ?_
    refine lv_topl (fun x_2 ex_2 => ?_)
    have zx_2 := zl_rem ex_2 (by omega)
    obtain ⟨hPc, hDc, hFc⟩ := sub3 hP hD hS hA (ws' := []) [] (by decide +kernel) rfl
    refine va_calll (va_runS (As := [.long p1, .long x_2]) (rest := []) ⟨hx, hb, hml, hown, hts⟩ (c_X12_common_17 l D k p1 x_2 s.heap.size (show 3 * (p1.toInt.natAbs : Int) + 2 * (x_2.toInt.natAbs : Int) ≤ 5393 ∧ x_2.toInt.natAbs ≤ p1.toInt.natAbs ∧ ¬ p1.toInt = 0 from by omega)) (va_cwS 2 hts (gS tw_8_192 tw_8_193 tw_1_13 tw_8_194) rfl rfl rfl hdS_X12_common ⟨Nat.le_of_ble_eq_true rfl, Nat.le_of_ble_eq_true rfl⟩) (cz_S hK hPc hDc hN [.long p1, .long x_2]) rfl rfl hl.1 rfl (lv_room (Nat.le_of_ble_eq_true rfl)) dX12_common_14 ⟨Nat.le_of_ble_eq_true rfl, Nat.le_of_ble_eq_true rfl⟩) hS (fun q _ h => hFc q h) hFc (fun r_3 uZ tZ H1 locs ht hvm hw hB hz1 hk1 hS => ?_)
    obtain ⟨hP1, hK1, hD1⟩ := hB
    rw [ht] at hP1
    obtain ⟨hP, hD⟩ := va_join (wr := []) (w1 := []) hP hD [] [] rfl rfl (by decide +kernel) (by decide +kernel) hk1 hFc hP1 hD1
    clear hK1 hP1 hD1 hPc hDc hFc
    clear hk1 hz1 ht hvm
    have hP : va_P D vwCl [] H1 := hP
    have hD : va_D A [] := hD
    generalize H1 = H at hP hS ⊢
    have hw_4 : (¬ r_3.toInt = 0) := hw
    have hw_5 := hw_4
    clear hw
    obtain ⟨hP9, hD9⟩ := sub2 hP hD (ws' := []) [] (by decide +kernel) rfl
    exact W.lret (v := r_3) hx hb hr (fun tZ ht hW => ⟨⟨r_3, (), rfl, (show ¬ r_3.toInt = 0 from by omega), by rw [ht]; exact hP9, va_K.moved hW.alike hK, hD9⟩, hS.F ht⟩) hS.2.2 dX12_common_17
  · skip
    have zh_1 : p1.toInt = 0 := zL_eq h_1 rfl rfl
    refine lv_lload_n hx hb dX12_common_6 rfl (lv_at hl 0 rfl) ?_
    refine lv_goto (tgt := 17) hx hb dX12_common_7 (by decide) ?_
    obtain ⟨hP9, hD9⟩ := sub2 hP hD (ws' := []) [] (by decide +kernel) rfl
    exact W.lret (v := p0) hx hb hr (fun tZ ht hW => ⟨⟨p0, (), rfl, (show ¬ p0.toInt = 0 from by omega), by rw [ht]; exact hP9, va_K.moved hW.alike hK, hD9⟩, hS.F ht⟩) hS.2.2 dX12_common_17
set_option maxHeartbeats 4000000 in
set_option maxRecDepth 100000 in
theorem c_X12_common_19 (l : Launch) (D : va_G) (k : Nat → ClassId) (p0 : Int64) (p1 : Int64) (sz : Nat) (hk : 3 * (p0.toInt.natAbs : Int) + 2 * (p1.toInt.natAbs : Int) ≤ 12136 ∧ p1.toInt.natAbs ≤ p0.toInt.natAbs ∧ ¬ p0.toInt = 0) : Met l yX12_common (ww yX12_common cX12_common 4 (some .long)) ({ frames := 19, cells := 0, slots := 0, locals := 437 }) (Pre0 D k [] sz [.long p0, .long p1]) (va_Ql (fun (r : Int64) (_ : Unit) => (¬ r.toInt = 0)) (fun (_ : Unit) tZ => Bw D k (va_A [] sz) [] tZ) (va_A [] sz)) 0 0 (va_A [] sz) := by
  refine Met.ofW (cc := cX12_common) (maxL := 4) (ret := (some .long)) (by decide +kernel) rfl ?_
  intro p e s m args below meth c s₁ B hml hv
  obtain ⟨rfl, hsz, hP, hK, hD0, hN⟩ := hv
  have hx := B.exec
  have hb := B.bytes
  have hr := B.returns
  have hts : ∀ w ∈ TT, w.before _ s = true := fun w h => atoms_spec (ws := ww yX12_common cX12_common 4 (some .long)) B.pre w (List.mem_cons_of_mem _ h)
  have hown : s.vm.findClass RX12 = some m.cls := findClass_of_methodNamed B.named
  have hlocks := B.notSynchronized
  subst hsz
  have hD := hD0.self (sz := s.heap.size)
  generalize hAe : va_A [] s.heap.size = A at hD ⊢
  have hA : ∀ q : Nat, s.heap.size ≤ q → A q := fun q h => by rw [← hAe]; exact Or.inr h
  have hS : va_S A s.heap s.heap [] := va_S.rf
  have hl := lv_entry ([.long p0, .long p1]) (n := 4) (Nat.le_of_ble_eq_true rfl)
  rw [lg_entry_eq]
  generalize (lg_sl ([.long p0, .long p1]) ++ List.replicate (4 - (lg_sl ([.long p0, .long p1])).length) Slot.unset).toArray = ls at hl ⊢
  have hl : lv_has ls 4 [(0, .long p0), (2, .long p1)] := hl
  refine lv_lload_n hx hb dX12_common_0 rfl (lv_at hl 1 rfl) ?_
  refine lv_lconst (v := 0) hx hb dX12_common_1 (by decide) ?_
  refine W.lcmp hx hb dX12_common_2 ?_
  refine lv_if_ne (tgt := 10) hx hb dX12_common_3 (by decide) (fun h_1 => ?_) (fun h_1 => ?_)
  · skip
    have zh_1 : ¬ p1.toInt = 0 := zL_ne h_1 rfl rfl
    refine lv_lload_n hx hb dX12_common_10 rfl (lv_at hl 1 rfl) ?_
    refine lv_lload_n hx hb dX12_common_11 rfl (lv_at hl 0 rfl) ?_
    refine lv_lload_n hx hb dX12_common_12 rfl (lv_at hl 1 rfl) ?_
    refine lv_lrem hx hb dX12_common_13 (fun q9 => by have := congrArg (fun v : Int64 => v.toInt) q9; simp at this; omega) ?_
    refine lv_topl (fun x_2 ex_2 => ?_)
    have zx_2 := zl_rem ex_2 (by omega)
    obtain ⟨hPc, hDc, hFc⟩ := sub3 hP hD hS hA (ws' := []) [] (by decide +kernel) rfl
    refine va_calll (va_runS (As := [.long p1, .long x_2]) (rest := []) ⟨hx, hb, hml, hown, hts⟩ (c_X12_common_18 l D k p1 x_2 s.heap.size (show 3 * (p1.toInt.natAbs : Int) + 2 * (x_2.toInt.natAbs : Int) ≤ 8090 ∧ x_2.toInt.natAbs ≤ p1.toInt.natAbs ∧ ¬ p1.toInt = 0 from by omega)) (va_cwS 2 hts (gS tw_8_192 tw_8_193 tw_1_13 tw_8_194) rfl rfl rfl hdS_X12_common ⟨Nat.le_of_ble_eq_true rfl, Nat.le_of_ble_eq_true rfl⟩) (cz_S hK hPc hDc hN [.long p1, .long x_2]) rfl rfl hl.1 rfl (lv_room (Nat.le_of_ble_eq_true rfl)) dX12_common_14 ⟨Nat.le_of_ble_eq_true rfl, Nat.le_of_ble_eq_true rfl⟩) hS (fun q _ h => hFc q h) hFc (fun r_3 uZ tZ H1 locs ht hvm hw hB hz1 hk1 hS => ?_)
    obtain ⟨hP1, hK1, hD1⟩ := hB
    rw [ht] at hP1
    obtain ⟨hP, hD⟩ := va_join (wr := []) (w1 := []) hP hD [] [] rfl rfl (by decide +kernel) (by decide +kernel) hk1 hFc hP1 hD1
    clear hK1 hP1 hD1 hPc hDc hFc
    clear hk1 hz1 ht hvm
    have hP : va_P D vwCl [] H1 := hP
    have hD : va_D A [] := hD
    generalize H1 = H at hP hS ⊢
    have hw_4 : (¬ r_3.toInt = 0) := hw
    have hw_5 := hw_4
    clear hw
    obtain ⟨hP9, hD9⟩ := sub2 hP hD (ws' := []) [] (by decide +kernel) rfl
    exact W.lret (v := r_3) hx hb hr (fun tZ ht hW => ⟨⟨r_3, (), rfl, (show ¬ r_3.toInt = 0 from by omega), by rw [ht]; exact hP9, va_K.moved hW.alike hK, hD9⟩, hS.F ht⟩) hS.2.2 dX12_common_17
  · skip
    have zh_1 : p1.toInt = 0 := zL_eq h_1 rfl rfl
    refine lv_lload_n hx hb dX12_common_6 rfl (lv_at hl 0 rfl) ?_
    refine lv_goto (tgt := 17) hx hb dX12_common_7 (by decide) ?_
    obtain ⟨hP9, hD9⟩ := sub2 hP hD (ws' := []) [] (by decide +kernel) rfl
    exact W.lret (v := p0) hx hb hr (fun tZ ht hW => ⟨⟨p0, (), rfl, (show ¬ p0.toInt = 0 from by omega), by rw [ht]; exact hP9, va_K.moved hW.alike hK, hD9⟩, hS.F ht⟩) hS.2.2 dX12_common_17
set_option maxHeartbeats 4000000 in
set_option maxRecDepth 100000 in
theorem c_X12_common_20 (l : Launch) (D : va_G) (k : Nat → ClassId) (p0 : Int64) (p1 : Int64) (sz : Nat) (hk : 3 * (p0.toInt.natAbs : Int) + 2 * (p1.toInt.natAbs : Int) ≤ 18205 ∧ p1.toInt.natAbs ≤ p0.toInt.natAbs ∧ ¬ p0.toInt = 0) : Met l yX12_common (ww yX12_common cX12_common 4 (some .long)) ({ frames := 20, cells := 0, slots := 0, locals := 460 }) (Pre0 D k [] sz [.long p0, .long p1]) (va_Ql (fun (r : Int64) (_ : Unit) => (¬ r.toInt = 0)) (fun (_ : Unit) tZ => Bw D k (va_A [] sz) [] tZ) (va_A [] sz)) 0 0 (va_A [] sz) := by
  refine Met.ofW (cc := cX12_common) (maxL := 4) (ret := (some .long)) (by decide +kernel) rfl ?_
  intro p e s m args below meth c s₁ B hml hv
  obtain ⟨rfl, hsz, hP, hK, hD0, hN⟩ := hv
  have hx := B.exec
  have hb := B.bytes
  have hr := B.returns
  have hts : ∀ w ∈ TT, w.before _ s = true := fun w h => atoms_spec (ws := ww yX12_common cX12_common 4 (some .long)) B.pre w (List.mem_cons_of_mem _ h)
  have hown : s.vm.findClass RX12 = some m.cls := findClass_of_methodNamed B.named
  have hlocks := B.notSynchronized
  subst hsz
  have hD := hD0.self (sz := s.heap.size)
  generalize hAe : va_A [] s.heap.size = A at hD ⊢
  have hA : ∀ q : Nat, s.heap.size ≤ q → A q := fun q h => by rw [← hAe]; exact Or.inr h
  have hS : va_S A s.heap s.heap [] := va_S.rf
  have hl := lv_entry ([.long p0, .long p1]) (n := 4) (Nat.le_of_ble_eq_true rfl)
  rw [lg_entry_eq]
  generalize (lg_sl ([.long p0, .long p1]) ++ List.replicate (4 - (lg_sl ([.long p0, .long p1])).length) Slot.unset).toArray = ls at hl ⊢
  have hl : lv_has ls 4 [(0, .long p0), (2, .long p1)] := hl
  refine lv_lload_n hx hb dX12_common_0 rfl (lv_at hl 1 rfl) ?_
  refine lv_lconst (v := 0) hx hb dX12_common_1 (by decide) ?_
  refine W.lcmp hx hb dX12_common_2 ?_
  refine lv_if_ne (tgt := 10) hx hb dX12_common_3 (by decide) (fun h_1 => ?_) (fun h_1 => ?_)
  · skip
    have zh_1 : ¬ p1.toInt = 0 := zL_ne h_1 rfl rfl
    refine lv_lload_n hx hb dX12_common_10 rfl (lv_at hl 1 rfl) ?_
    refine lv_lload_n hx hb dX12_common_11 rfl (lv_at hl 0 rfl) ?_
    refine lv_lload_n hx hb dX12_common_12 rfl (lv_at hl 1 rfl) ?_
    refine lv_lrem hx hb dX12_common_13 (fun q9 => by have := congrArg (fun v : Int64 => v.toInt) q9; simp at this; omega) ?_
    refine lv_topl (fun x_2 ex_2 => ?_)
    have zx_2 := zl_rem ex_2 (by omega)
    obtain ⟨hPc, hDc, hFc⟩ := sub3 hP hD hS hA (ws' := []) [] (by decide +kernel) rfl
    refine va_calll (va_runS (As := [.long p1, .long x_2]) (rest := []) ⟨hx, hb, hml, hown, hts⟩ (c_X12_common_19 l D k p1 x_2 s.heap.size (show 3 * (p1.toInt.natAbs : Int) + 2 * (x_2.toInt.natAbs : Int) ≤ 12136 ∧ x_2.toInt.natAbs ≤ p1.toInt.natAbs ∧ ¬ p1.toInt = 0 from by omega)) (va_cwS 2 hts (gS tw_8_192 tw_8_193 tw_1_13 tw_8_194) rfl rfl rfl hdS_X12_common ⟨Nat.le_of_ble_eq_true rfl, Nat.le_of_ble_eq_true rfl⟩) (cz_S hK hPc hDc hN [.long p1, .long x_2]) rfl rfl hl.1 rfl (lv_room (Nat.le_of_ble_eq_true rfl)) dX12_common_14 ⟨Nat.le_of_ble_eq_true rfl, Nat.le_of_ble_eq_true rfl⟩) hS (fun q _ h => hFc q h) hFc (fun r_3 uZ tZ H1 locs ht hvm hw hB hz1 hk1 hS => ?_)
    obtain ⟨hP1, hK1, hD1⟩ := hB
    rw [ht] at hP1
    obtain ⟨hP, hD⟩ := va_join (wr := []) (w1 := []) hP hD [] [] rfl rfl (by decide +kernel) (by decide +kernel) hk1 hFc hP1 hD1
    clear hK1 hP1 hD1 hPc hDc hFc
    clear hk1 hz1 ht hvm
    have hP : va_P D vwCl [] H1 := hP
    have hD : va_D A [] := hD
    generalize H1 = H at hP hS ⊢
    have hw_4 : (¬ r_3.toInt = 0) := hw
    have hw_5 := hw_4
    clear hw
    obtain ⟨hP9, hD9⟩ := sub2 hP hD (ws' := []) [] (by decide +kernel) rfl
    exact W.lret (v := r_3) hx hb hr (fun tZ ht hW => ⟨⟨r_3, (), rfl, (show ¬ r_3.toInt = 0 from by omega), by rw [ht]; exact hP9, va_K.moved hW.alike hK, hD9⟩, hS.F ht⟩) hS.2.2 dX12_common_17
  · skip
    have zh_1 : p1.toInt = 0 := zL_eq h_1 rfl rfl
    refine lv_lload_n hx hb dX12_common_6 rfl (lv_at hl 0 rfl) ?_
    refine lv_goto (tgt := 17) hx hb dX12_common_7 (by decide) ?_
    obtain ⟨hP9, hD9⟩ := sub2 hP hD (ws' := []) [] (by decide +kernel) rfl
    exact W.lret (v := p0) hx hb hr (fun tZ ht hW => ⟨⟨p0, (), rfl, (show ¬ p0.toInt = 0 from by omega), by rw [ht]; exact hP9, va_K.moved hW.alike hK, hD9⟩, hS.F ht⟩) hS.2.2 dX12_common_17
set_option maxHeartbeats 4000000 in
set_option maxRecDepth 100000 in
theorem c_X12_common_21 (l : Launch) (D : va_G) (k : Nat → ClassId) (p0 : Int64) (p1 : Int64) (sz : Nat) (hk : 3 * (p0.toInt.natAbs : Int) + 2 * (p1.toInt.natAbs : Int) ≤ 27308 ∧ p1.toInt.natAbs ≤ p0.toInt.natAbs ∧ ¬ p0.toInt = 0) : Met l yX12_common (ww yX12_common cX12_common 4 (some .long)) ({ frames := 21, cells := 0, slots := 0, locals := 483 }) (Pre0 D k [] sz [.long p0, .long p1]) (va_Ql (fun (r : Int64) (_ : Unit) => (¬ r.toInt = 0)) (fun (_ : Unit) tZ => Bw D k (va_A [] sz) [] tZ) (va_A [] sz)) 0 0 (va_A [] sz) := by
  refine Met.ofW (cc := cX12_common) (maxL := 4) (ret := (some .long)) (by decide +kernel) rfl ?_
  intro p e s m args below meth c s₁ B hml hv
  obtain ⟨rfl, hsz, hP, hK, hD0, hN⟩ := hv
  have hx := B.exec
  have hb := B.bytes
  have hr := B.returns
  have hts : ∀ w ∈ TT, w.before _ s = true := fun w h => atoms_spec (ws := ww yX12_common cX12_common 4 (some .long)) B.pre w (List.mem_cons_of_mem _ h)
  have hown : s.vm.findClass RX12 = some m.cls := findClass_of_methodNamed B.named
  have hlocks := B.notSynchronized
  subst hsz
  have hD := hD0.self (sz := s.heap.size)
  generalize hAe : va_A [] s.heap.size = A at hD ⊢
  have hA : ∀ q : Nat, s.heap.size ≤ q → A q := fun q h => by rw [← hAe]; exact Or.inr h
  have hS : va_S A s.heap s.heap [] := va_S.rf
  have hl := lv_entry ([.long p0, .long p1]) (n := 4) (Nat.le_of_ble_eq_true rfl)
  rw [lg_entry_eq]
  generalize (lg_sl ([.long p0, .long p1]) ++ List.replicate (4 - (lg_sl ([.long p0, .long p1])).length) Slot.unset).toArray = ls at hl ⊢
  have hl : lv_has ls 4 [(0, .long p0), (2, .long p1)] := hl
  refine lv_lload_n hx hb dX12_common_0 rfl (lv_at hl 1 rfl) ?_
  refine lv_lconst (v := 0) hx hb dX12_common_1 (by decide) ?_
  refine W.lcmp hx hb dX12_common_2 ?_
  refine lv_if_ne (tgt := 10) hx hb dX12_common_3 (by decide) (fun h_1 => ?_) (fun h_1 => ?_)
  · skip
    have zh_1 : ¬ p1.toInt = 0 := zL_ne h_1 rfl rfl
    refine lv_lload_n hx hb dX12_common_10 rfl (lv_at hl 1 rfl) ?_
    refine lv_lload_n hx hb dX12_common_11 rfl (lv_at hl 0 rfl) ?_
    refine lv_lload_n hx hb dX12_common_12 rfl (lv_at hl 1 rfl) ?_
    refine lv_lrem hx hb dX12_common_13 (fun q9 => by have := congrArg (fun v : Int64 => v.toInt) q9; simp at this; omega) ?_
    refine lv_topl (fun x_2 ex_2 => ?_)
    have zx_2 := zl_rem ex_2 (by omega)
    obtain ⟨hPc, hDc, hFc⟩ := sub3 hP hD hS hA (ws' := []) [] (by decide +kernel) rfl
    refine va_calll (va_runS (As := [.long p1, .long x_2]) (rest := []) ⟨hx, hb, hml, hown, hts⟩ (c_X12_common_20 l D k p1 x_2 s.heap.size (show 3 * (p1.toInt.natAbs : Int) + 2 * (x_2.toInt.natAbs : Int) ≤ 18205 ∧ x_2.toInt.natAbs ≤ p1.toInt.natAbs ∧ ¬ p1.toInt = 0 from by omega)) (va_cwS 2 hts (gS tw_8_192 tw_8_193 tw_1_13 tw_8_194) rfl rfl rfl hdS_X12_common ⟨Nat.le_of_ble_eq_true rfl, Nat.le_of_ble_eq_true rfl⟩) (cz_S hK hPc hDc hN [.long p1, .long x_2]) rfl rfl hl.1 rfl (lv_room (Nat.le_of_ble_eq_true rfl)) dX12_common_14 ⟨Nat.le_of_ble_eq_true rfl, Nat.le_of_ble_eq_true rfl⟩) hS (fun q _ h => hFc q h) hFc (fun r_3 uZ tZ H1 locs ht hvm hw hB hz1 hk1 hS => ?_)
    obtain ⟨hP1, hK1, hD1⟩ := hB
    rw [ht] at hP1
    obtain ⟨hP, hD⟩ := va_join (wr := []) (w1 := []) hP hD [] [] rfl rfl (by decide +kernel) (by decide +kernel) hk1 hFc hP1 hD1
    clear hK1 hP1 hD1 hPc hDc hFc
    clear hk1 hz1 ht hvm
    have hP : va_P D vwCl [] H1 := hP
    have hD : va_D A [] := hD
    generalize H1 = H at hP hS ⊢
    have hw_4 : (¬ r_3.toInt = 0) := hw
    have hw_5 := hw_4
    clear hw
    obtain ⟨hP9, hD9⟩ := sub2 hP hD (ws' := []) [] (by decide +kernel) rfl
    exact W.lret (v := r_3) hx hb hr (fun tZ ht hW => ⟨⟨r_3, (), rfl, (show ¬ r_3.toInt = 0 from by omega), by rw [ht]; exact hP9, va_K.moved hW.alike hK, hD9⟩, hS.F ht⟩) hS.2.2 dX12_common_17
  · skip
    have zh_1 : p1.toInt = 0 := zL_eq h_1 rfl rfl
    refine lv_lload_n hx hb dX12_common_6 rfl (lv_at hl 0 rfl) ?_
    refine lv_goto (tgt := 17) hx hb dX12_common_7 (by decide) ?_
    obtain ⟨hP9, hD9⟩ := sub2 hP hD (ws' := []) [] (by decide +kernel) rfl
    exact W.lret (v := p0) hx hb hr (fun tZ ht hW => ⟨⟨p0, (), rfl, (show ¬ p0.toInt = 0 from by omega), by rw [ht]; exact hP9, va_K.moved hW.alike hK, hD9⟩, hS.F ht⟩) hS.2.2 dX12_common_17
set_option maxHeartbeats 4000000 in
set_option maxRecDepth 100000 in
theorem c_X12_common_22 (l : Launch) (D : va_G) (k : Nat → ClassId) (p0 : Int64) (p1 : Int64) (sz : Nat) (hk : 3 * (p0.toInt.natAbs : Int) + 2 * (p1.toInt.natAbs : Int) ≤ 40963 ∧ p1.toInt.natAbs ≤ p0.toInt.natAbs ∧ ¬ p0.toInt = 0) : Met l yX12_common (ww yX12_common cX12_common 4 (some .long)) ({ frames := 22, cells := 0, slots := 0, locals := 506 }) (Pre0 D k [] sz [.long p0, .long p1]) (va_Ql (fun (r : Int64) (_ : Unit) => (¬ r.toInt = 0)) (fun (_ : Unit) tZ => Bw D k (va_A [] sz) [] tZ) (va_A [] sz)) 0 0 (va_A [] sz) := by
  refine Met.ofW (cc := cX12_common) (maxL := 4) (ret := (some .long)) (by decide +kernel) rfl ?_
  intro p e s m args below meth c s₁ B hml hv
  obtain ⟨rfl, hsz, hP, hK, hD0, hN⟩ := hv
  have hx := B.exec
  have hb := B.bytes
  have hr := B.returns
  have hts : ∀ w ∈ TT, w.before _ s = true := fun w h => atoms_spec (ws := ww yX12_common cX12_common 4 (some .long)) B.pre w (List.mem_cons_of_mem _ h)
  have hown : s.vm.findClass RX12 = some m.cls := findClass_of_methodNamed B.named
  have hlocks := B.notSynchronized
  subst hsz
  have hD := hD0.self (sz := s.heap.size)
  generalize hAe : va_A [] s.heap.size = A at hD ⊢
  have hA : ∀ q : Nat, s.heap.size ≤ q → A q := fun q h => by rw [← hAe]; exact Or.inr h
  have hS : va_S A s.heap s.heap [] := va_S.rf
  have hl := lv_entry ([.long p0, .long p1]) (n := 4) (Nat.le_of_ble_eq_true rfl)
  rw [lg_entry_eq]
  generalize (lg_sl ([.long p0, .long p1]) ++ List.replicate (4 - (lg_sl ([.long p0, .long p1])).length) Slot.unset).toArray = ls at hl ⊢
  have hl : lv_has ls 4 [(0, .long p0), (2, .long p1)] := hl
  refine lv_lload_n hx hb dX12_common_0 rfl (lv_at hl 1 rfl) ?_
  refine lv_lconst (v := 0) hx hb dX12_common_1 (by decide) ?_
  refine W.lcmp hx hb dX12_common_2 ?_
  refine lv_if_ne (tgt := 10) hx hb dX12_common_3 (by decide) (fun h_1 => ?_) (fun h_1 => ?_)
  · skip
    have zh_1 : ¬ p1.toInt = 0 := zL_ne h_1 rfl rfl
    refine lv_lload_n hx hb dX12_common_10 rfl (lv_at hl 1 rfl) ?_
    refine lv_lload_n hx hb dX12_common_11 rfl (lv_at hl 0 rfl) ?_
    refine lv_lload_n hx hb dX12_common_12 rfl (lv_at hl 1 rfl) ?_
    refine lv_lrem hx hb dX12_common_13 (fun q9 => by have := congrArg (fun v : Int64 => v.toInt) q9; simp at this; omega) ?_
    refine lv_topl (fun x_2 ex_2 => ?_)
    have zx_2 := zl_rem ex_2 (by omega)
    obtain ⟨hPc, hDc, hFc⟩ := sub3 hP hD hS hA (ws' := []) [] (by decide +kernel) rfl
    refine va_calll (va_runS (As := [.long p1, .long x_2]) (rest := []) ⟨hx, hb, hml, hown, hts⟩ (c_X12_common_21 l D k p1 x_2 s.heap.size (show 3 * (p1.toInt.natAbs : Int) + 2 * (x_2.toInt.natAbs : Int) ≤ 27308 ∧ x_2.toInt.natAbs ≤ p1.toInt.natAbs ∧ ¬ p1.toInt = 0 from by omega)) (va_cwS 2 hts (gS tw_8_192 tw_8_193 tw_1_13 tw_8_194) rfl rfl rfl hdS_X12_common ⟨Nat.le_of_ble_eq_true rfl, Nat.le_of_ble_eq_true rfl⟩) (cz_S hK hPc hDc hN [.long p1, .long x_2]) rfl rfl hl.1 rfl (lv_room (Nat.le_of_ble_eq_true rfl)) dX12_common_14 ⟨Nat.le_of_ble_eq_true rfl, Nat.le_of_ble_eq_true rfl⟩) hS (fun q _ h => hFc q h) hFc (fun r_3 uZ tZ H1 locs ht hvm hw hB hz1 hk1 hS => ?_)
    obtain ⟨hP1, hK1, hD1⟩ := hB
    rw [ht] at hP1
    obtain ⟨hP, hD⟩ := va_join (wr := []) (w1 := []) hP hD [] [] rfl rfl (by decide +kernel) (by decide +kernel) hk1 hFc hP1 hD1
    clear hK1 hP1 hD1 hPc hDc hFc
    clear hk1 hz1 ht hvm
    have hP : va_P D vwCl [] H1 := hP
    have hD : va_D A [] := hD
    generalize H1 = H at hP hS ⊢
    have hw_4 : (¬ r_3.toInt = 0) := hw
    have hw_5 := hw_4
    clear hw
    obtain ⟨hP9, hD9⟩ := sub2 hP hD (ws' := []) [] (by decide +kernel) rfl
    exact W.lret (v := r_3) hx hb hr (fun tZ ht hW => ⟨⟨r_3, (), rfl, (show ¬ r_3.toInt = 0 from by omega), by rw [ht]; exact hP9, va_K.moved hW.alike hK, hD9⟩, hS.F ht⟩) hS.2.2 dX12_common_17
  · skip
    have zh_1 : p1.toInt = 0 := zL_eq h_1 rfl rfl
    refine lv_lload_n hx hb dX12_common_6 rfl (lv_at hl 0 rfl) ?_
    refine lv_goto (tgt := 17) hx hb dX12_common_7 (by decide) ?_
    obtain ⟨hP9, hD9⟩ := sub2 hP hD (ws' := []) [] (by decide +kernel) rfl
    exact W.lret (v := p0) hx hb hr (fun tZ ht hW => ⟨⟨p0, (), rfl, (show ¬ p0.toInt = 0 from by omega), by rw [ht]; exact hP9, va_K.moved hW.alike hK, hD9⟩, hS.F ht⟩) hS.2.2 dX12_common_17
set_option maxHeartbeats 4000000 in
set_option maxRecDepth 100000 in
theorem c_X12_common_23 (l : Launch) (D : va_G) (k : Nat → ClassId) (p0 : Int64) (p1 : Int64) (sz : Nat) (hk : 3 * (p0.toInt.natAbs : Int) + 2 * (p1.toInt.natAbs : Int) ≤ 61445 ∧ p1.toInt.natAbs ≤ p0.toInt.natAbs ∧ ¬ p0.toInt = 0) : Met l yX12_common (ww yX12_common cX12_common 4 (some .long)) ({ frames := 23, cells := 0, slots := 0, locals := 529 }) (Pre0 D k [] sz [.long p0, .long p1]) (va_Ql (fun (r : Int64) (_ : Unit) => (¬ r.toInt = 0)) (fun (_ : Unit) tZ => Bw D k (va_A [] sz) [] tZ) (va_A [] sz)) 0 0 (va_A [] sz) := by
  refine Met.ofW (cc := cX12_common) (maxL := 4) (ret := (some .long)) (by decide +kernel) rfl ?_
  intro p e s m args below meth c s₁ B hml hv
  obtain ⟨rfl, hsz, hP, hK, hD0, hN⟩ := hv
  have hx := B.exec
  have hb := B.bytes
  have hr := B.returns
  have hts : ∀ w ∈ TT, w.before _ s = true := fun w h => atoms_spec (ws := ww yX12_common cX12_common 4 (some .long)) B.pre w (List.mem_cons_of_mem _ h)
  have hown : s.vm.findClass RX12 = some m.cls := findClass_of_methodNamed B.named
  have hlocks := B.notSynchronized
  subst hsz
  have hD := hD0.self (sz := s.heap.size)
  generalize hAe : va_A [] s.heap.size = A at hD ⊢
  have hA : ∀ q : Nat, s.heap.size ≤ q → A q := fun q h => by rw [← hAe]; exact Or.inr h
  have hS : va_S A s.heap s.heap [] := va_S.rf
  have hl := lv_entry ([.long p0, .long p1]) (n := 4) (Nat.le_of_ble_eq_true rfl)
  rw [lg_entry_eq]
  generalize (lg_sl ([.long p0, .long p1]) ++ List.replicate (4 - (lg_sl ([.long p0, .long p1])).length) Slot.unset).toArray = ls at hl ⊢
  have hl : lv_has ls 4 [(0, .long p0), (2, .long p1)] := hl
  refine lv_lload_n hx hb dX12_common_0 rfl (lv_at hl 1 rfl) ?_
  refine lv_lconst (v := 0) hx hb dX12_common_1 (by decide) ?_
  refine W.lcmp hx hb dX12_common_2 ?_
  refine lv_if_ne (tgt := 10) hx hb dX12_common_3 (by decide) (fun h_1 => ?_) (fun h_1 => ?_)
  · skip
    have zh_1 : ¬ p1.toInt = 0 := zL_ne h_1 rfl rfl
    refine lv_lload_n hx hb dX12_common_10 rfl (lv_at hl 1 rfl) ?_
    refine lv_lload_n hx hb dX12_common_11 rfl (lv_at hl 0 rfl) ?_
    refine lv_lload_n hx hb dX12_common_12 rfl (lv_at hl 1 rfl) ?_
    refine lv_lrem hx hb dX12_common_13 (fun q9 => by have := congrArg (fun v : Int64 => v.toInt) q9; simp at this; omega) ?_
    refine lv_topl (fun x_2 ex_2 => ?_)
    have zx_2 := zl_rem ex_2 (by omega)
    obtain ⟨hPc, hDc, hFc⟩ := sub3 hP hD hS hA (ws' := []) [] (by decide +kernel) rfl
    refine va_calll (va_runS (As := [.long p1, .long x_2]) (rest := []) ⟨hx, hb, hml, hown, hts⟩ (c_X12_common_22 l D k p1 x_2 s.heap.size (show 3 * (p1.toInt.natAbs : Int) + 2 * (x_2.toInt.natAbs : Int) ≤ 40963 ∧ x_2.toInt.natAbs ≤ p1.toInt.natAbs ∧ ¬ p1.toInt = 0 from by omega)) (va_cwS 2 hts (gS tw_8_192 tw_8_193 tw_1_13 tw_8_194) rfl rfl rfl hdS_X12_common ⟨Nat.le_of_ble_eq_true rfl, Nat.le_of_ble_eq_true rfl⟩) (cz_S hK hPc hDc hN [.long p1, .long x_2]) rfl rfl hl.1 rfl (lv_room (Nat.le_of_ble_eq_true rfl)) dX12_common_14 ⟨Nat.le_of_ble_eq_true rfl, Nat.le_of_ble_eq_true rfl⟩) hS (fun q _ h => hFc q h) hFc (fun r_3 uZ tZ H1 locs ht hvm hw hB hz1 hk1 hS => ?_)
    obtain ⟨hP1, hK1, hD1⟩ := hB
    rw [ht] at hP1
    obtain ⟨hP, hD⟩ := va_join (wr := []) (w1 := []) hP hD [] [] rfl rfl (by decide +kernel) (by decide +kernel) hk1 hFc hP1 hD1
    clear hK1 hP1 hD1 hPc hDc hFc
    clear hk1 hz1 ht hvm
    have hP : va_P D vwCl [] H1 := hP
    have hD : va_D A [] := hD
    generalize H1 = H at hP hS ⊢
    have hw_4 : (¬ r_3.toInt = 0) := hw
    have hw_5 := hw_4
    clear hw
    obtain ⟨hP9, hD9⟩ := sub2 hP hD (ws' := []) [] (by decide +kernel) rfl
    exact W.lret (v := r_3) hx hb hr (fun tZ ht hW => ⟨⟨r_3, (), rfl, (show ¬ r_3.toInt = 0 from by omega), by rw [ht]; exact hP9, va_K.moved hW.alike hK, hD9⟩, hS.F ht⟩) hS.2.2 dX12_common_17
  · skip
    have zh_1 : p1.toInt = 0 := zL_eq h_1 rfl rfl
    refine lv_lload_n hx hb dX12_common_6 rfl (lv_at hl 0 rfl) ?_
    refine lv_goto (tgt := 17) hx hb dX12_common_7 (by decide) ?_
    obtain ⟨hP9, hD9⟩ := sub2 hP hD (ws' := []) [] (by decide +kernel) rfl
    exact W.lret (v := p0) hx hb hr (fun tZ ht hW => ⟨⟨p0, (), rfl, (show ¬ p0.toInt = 0 from by omega), by rw [ht]; exact hP9, va_K.moved hW.alike hK, hD9⟩, hS.F ht⟩) hS.2.2 dX12_common_17
set_option maxHeartbeats 4000000 in
set_option maxRecDepth 100000 in
theorem c_X12_common_24 (l : Launch) (D : va_G) (k : Nat → ClassId) (p0 : Int64) (p1 : Int64) (sz : Nat) (hk : 3 * (p0.toInt.natAbs : Int) + 2 * (p1.toInt.natAbs : Int) ≤ 92168 ∧ p1.toInt.natAbs ≤ p0.toInt.natAbs ∧ ¬ p0.toInt = 0) : Met l yX12_common (ww yX12_common cX12_common 4 (some .long)) ({ frames := 24, cells := 0, slots := 0, locals := 552 }) (Pre0 D k [] sz [.long p0, .long p1]) (va_Ql (fun (r : Int64) (_ : Unit) => (¬ r.toInt = 0)) (fun (_ : Unit) tZ => Bw D k (va_A [] sz) [] tZ) (va_A [] sz)) 0 0 (va_A [] sz) := by
  refine Met.ofW (cc := cX12_common) (maxL := 4) (ret := (some .long)) (by decide +kernel) rfl ?_
  intro p e s m args below meth c s₁ B hml hv
  obtain ⟨rfl, hsz, hP, hK, hD0, hN⟩ := hv
  have hx := B.exec
  have hb := B.bytes
  have hr := B.returns
  have hts : ∀ w ∈ TT, w.before _ s = true := fun w h => atoms_spec (ws := ww yX12_common cX12_common 4 (some .long)) B.pre w (List.mem_cons_of_mem _ h)
  have hown : s.vm.findClass RX12 = some m.cls := findClass_of_methodNamed B.named
  have hlocks := B.notSynchronized
  subst hsz
  have hD := hD0.self (sz := s.heap.size)
  generalize hAe : va_A [] s.heap.size = A at hD ⊢
  have hA : ∀ q : Nat, s.heap.size ≤ q → A q := fun q h => by rw [← hAe]; exact Or.inr h
  have hS : va_S A s.heap s.heap [] := va_S.rf
  have hl := lv_entry ([.long p0, .long p1]) (n := 4) (Nat.le_of_ble_eq_true rfl)
  rw [lg_entry_eq]
  generalize (lg_sl ([.long p0, .long p1]) ++ List.replicate (4 - (lg_sl ([.long p0, .long p1])).length) Slot.unset).toArray = ls at hl ⊢
  have hl : lv_has ls 4 [(0, .long p0), (2, .long p1)] := hl
  refine lv_lload_n hx hb dX12_common_0 rfl (lv_at hl 1 rfl) ?_
  refine lv_lconst (v := 0) hx hb dX12_common_1 (by decide) ?_
  refine W.lcmp hx hb dX12_common_2 ?_
  refine lv_if_ne (tgt := 10) hx hb dX12_common_3 (by decide) (fun h_1 => ?_) (fun h_1 => ?_)
  · skip
    have zh_1 : ¬ p1.toInt = 0 := zL_ne h_1 rfl rfl
    refine lv_lload_n hx hb dX12_common_10 rfl (lv_at hl 1 rfl) ?_
    refine lv_lload_n hx hb dX12_common_11 rfl (lv_at hl 0 rfl) ?_
    refine lv_lload_n hx hb dX12_common_12 rfl (lv_at hl 1 rfl) ?_
    refine lv_lrem hx hb dX12_common_13 (fun q9 => by have := congrArg (fun v : Int64 => v.toInt) q9; simp at this; omega) ?_
    refine lv_topl (fun x_2 ex_2 => ?_)
    have zx_2 := zl_rem ex_2 (by omega)
    obtain ⟨hPc, hDc, hFc⟩ := sub3 hP hD hS hA (ws' := []) [] (by decide +kernel) rfl
    refine va_calll (va_runS (As := [.long p1, .long x_2]) (rest := []) ⟨hx, hb, hml, hown, hts⟩ (c_X12_common_23 l D k p1 x_2 s.heap.size (show 3 * (p1.toInt.natAbs : Int) + 2 * (x_2.toInt.natAbs : Int) ≤ 61445 ∧ x_2.toInt.natAbs ≤ p1.toInt.natAbs ∧ ¬ p1.toInt = 0 from by omega)) (va_cwS 2 hts (gS tw_8_192 tw_8_193 tw_1_13 tw_8_194) rfl rfl rfl hdS_X12_common ⟨Nat.le_of_ble_eq_true rfl, Nat.le_of_ble_eq_true rfl⟩) (cz_S hK hPc hDc hN [.long p1, .long x_2]) rfl rfl hl.1 rfl (lv_room (Nat.le_of_ble_eq_true rfl)) dX12_common_14 ⟨Nat.le_of_ble_eq_true rfl, Nat.le_of_ble_eq_true rfl⟩) hS (fun q _ h => hFc q h) hFc (fun r_3 uZ tZ H1 locs ht hvm hw hB hz1 hk1 hS => ?_)
    obtain ⟨hP1, hK1, hD1⟩ := hB
    rw [ht] at hP1
    obtain ⟨hP, hD⟩ := va_join (wr := []) (w1 := []) hP hD [] [] rfl rfl (by decide +kernel) (by decide +kernel) hk1 hFc hP1 hD1
    clear hK1 hP1 hD1 hPc hDc hFc
    clear hk1 hz1 ht hvm
    have hP : va_P D vwCl [] H1 := hP
    have hD : va_D A [] := hD
    generalize H1 = H at hP hS ⊢
    have hw_4 : (¬ r_3.toInt = 0) := hw
    have hw_5 := hw_4
    clear hw
    obtain ⟨hP9, hD9⟩ := sub2 hP hD (ws' := []) [] (by decide +kernel) rfl
    exact W.lret (v := r_3) hx hb hr (fun tZ ht hW => ⟨⟨r_3, (), rfl, (show ¬ r_3.toInt = 0 from by omega), by rw [ht]; exact hP9, va_K.moved hW.alike hK, hD9⟩, hS.F ht⟩) hS.2.2 dX12_common_17
  · skip
    have zh_1 : p1.toInt = 0 := zL_eq h_1 rfl rfl
    refine lv_lload_n hx hb dX12_common_6 rfl (lv_at hl 0 rfl) ?_
    refine lv_goto (tgt := 17) hx hb dX12_common_7 (by decide) ?_
    obtain ⟨hP9, hD9⟩ := sub2 hP hD (ws' := []) [] (by decide +kernel) rfl
    exact W.lret (v := p0) hx hb hr (fun tZ ht hW => ⟨⟨p0, (), rfl, (show ¬ p0.toInt = 0 from by omega), by rw [ht]; exact hP9, va_K.moved hW.alike hK, hD9⟩, hS.F ht⟩) hS.2.2 dX12_common_17
set_option maxHeartbeats 4000000 in
set_option maxRecDepth 100000 in
theorem c_X12_common_25 (l : Launch) (D : va_G) (k : Nat → ClassId) (p0 : Int64) (p1 : Int64) (sz : Nat) (hk : 3 * (p0.toInt.natAbs : Int) + 2 * (p1.toInt.natAbs : Int) ≤ 138253 ∧ p1.toInt.natAbs ≤ p0.toInt.natAbs ∧ ¬ p0.toInt = 0) : Met l yX12_common (ww yX12_common cX12_common 4 (some .long)) ({ frames := 25, cells := 0, slots := 0, locals := 575 }) (Pre0 D k [] sz [.long p0, .long p1]) (va_Ql (fun (r : Int64) (_ : Unit) => (¬ r.toInt = 0)) (fun (_ : Unit) tZ => Bw D k (va_A [] sz) [] tZ) (va_A [] sz)) 0 0 (va_A [] sz) := by
  refine Met.ofW (cc := cX12_common) (maxL := 4) (ret := (some .long)) (by decide +kernel) rfl ?_
  intro p e s m args below meth c s₁ B hml hv
  obtain ⟨rfl, hsz, hP, hK, hD0, hN⟩ := hv
  have hx := B.exec
  have hb := B.bytes
  have hr := B.returns
  have hts : ∀ w ∈ TT, w.before _ s = true := fun w h => atoms_spec (ws := ww yX12_common cX12_common 4 (some .long)) B.pre w (List.mem_cons_of_mem _ h)
  have hown : s.vm.findClass RX12 = some m.cls := findClass_of_methodNamed B.named
  have hlocks := B.notSynchronized
  subst hsz
  have hD := hD0.self (sz := s.heap.size)
  generalize hAe : va_A [] s.heap.size = A at hD ⊢
  have hA : ∀ q : Nat, s.heap.size ≤ q → A q := fun q h => by rw [← hAe]; exact Or.inr h
  have hS : va_S A s.heap s.heap [] := va_S.rf
  have hl := lv_entry ([.long p0, .long p1]) (n := 4) (Nat.le_of_ble_eq_true rfl)
  rw [lg_entry_eq]
  generalize (lg_sl ([.long p0, .long p1]) ++ List.replicate (4 - (lg_sl ([.long p0, .long p1])).length) Slot.unset).toArray = ls at hl ⊢
  have hl : lv_has ls 4 [(0, .long p0), (2, .long p1)] := hl
  refine lv_lload_n hx hb dX12_common_0 rfl (lv_at hl 1 rfl) ?_
  refine lv_lconst (v := 0) hx hb dX12_common_1 (by decide) ?_
  refine W.lcmp hx hb dX12_common_2 ?_
  refine lv_if_ne (tgt := 10) hx hb dX12_common_3 (by decide) (fun h_1 => ?_) (fun h_1 => ?_)
  · skip
    have zh_1 : ¬ p1.toInt = 0 := zL_ne h_1 rfl rfl
    refine lv_lload_n hx hb dX12_common_10 rfl (lv_at hl 1 rfl) ?_
    refine lv_lload_n hx hb dX12_common_11 rfl (lv_at hl 0 rfl) ?_
    refine lv_lload_n hx hb dX12_common_12 rfl (lv_at hl 1 rfl) ?_
    refine lv_lrem hx hb dX12_common_13 (fun q9 => by have := congrArg (fun v : Int64 => v.toInt) q9; simp at this; omega) ?_
    refine lv_topl (fun x_2 ex_2 => ?_)
    have zx_2 := zl_rem ex_2 (by omega)
    obtain ⟨hPc, hDc, hFc⟩ := sub3 hP hD hS hA (ws' := []) [] (by decide +kernel) rfl
    refine va_calll (va_runS (As := [.long p1, .long x_2]) (rest := []) ⟨hx, hb, hml, hown, hts⟩ (c_X12_common_24 l D k p1 x_2 s.heap.size (show 3 * (p1.toInt.natAbs : Int) + 2 * (x_2.toInt.natAbs : Int) ≤ 92168 ∧ x_2.toInt.natAbs ≤ p1.toInt.natAbs ∧ ¬ p1.toInt = 0 from by omega)) (va_cwS 2 hts (gS tw_8_192 tw_8_193 tw_1_13 tw_8_194) rfl rfl rfl hdS_X12_common ⟨Nat.le_of_ble_eq_true rfl, Nat.le_of_ble_eq_true rfl⟩) (cz_S hK hPc hDc hN [.long p1, .long x_2]) rfl rfl hl.1 rfl (lv_room (Nat.le_of_ble_eq_true rfl)) dX12_common_14 ⟨Nat.le_of_ble_eq_true rfl, Nat.le_of_ble_eq_true rfl⟩) hS (fun q _ h => hFc q h) hFc (fun r_3 uZ tZ H1 locs ht hvm hw hB hz1 hk1 hS => ?_)
    obtain ⟨hP1, hK1, hD1⟩ := hB
    rw [ht] at hP1
    obtain ⟨hP, hD⟩ := va_join (wr := []) (w1 := []) hP hD [] [] rfl rfl (by decide +kernel) (by decide +kernel) hk1 hFc hP1 hD1
    clear hK1 hP1 hD1 hPc hDc hFc
    clear hk1 hz1 ht hvm
    have hP : va_P D vwCl [] H1 := hP
    have hD : va_D A [] := hD
    generalize H1 = H at hP hS ⊢
    have hw_4 : (¬ r_3.toInt = 0) := hw
    have hw_5 := hw_4
    clear hw
    obtain ⟨hP9, hD9⟩ := sub2 hP hD (ws' := []) [] (by decide +kernel) rfl
    exact W.lret (v := r_3) hx hb hr (fun tZ ht hW => ⟨⟨r_3, (), rfl, (show ¬ r_3.toInt = 0 from by omega), by rw [ht]; exact hP9, va_K.moved hW.alike hK, hD9⟩, hS.F ht⟩) hS.2.2 dX12_common_17
  · skip
    have zh_1 : p1.toInt = 0 := zL_eq h_1 rfl rfl
    refine lv_lload_n hx hb dX12_common_6 rfl (lv_at hl 0 rfl) ?_
    refine lv_goto (tgt := 17) hx hb dX12_common_7 (by decide) ?_
    obtain ⟨hP9, hD9⟩ := sub2 hP hD (ws' := []) [] (by decide +kernel) rfl
    exact W.lret (v := p0) hx hb hr (fun tZ ht hW => ⟨⟨p0, (), rfl, (show ¬ p0.toInt = 0 from by omega), by rw [ht]; exact hP9, va_K.moved hW.alike hK, hD9⟩, hS.F ht⟩) hS.2.2 dX12_common_17
set_option maxHeartbeats 4000000 in
set_option maxRecDepth 100000 in
theorem c_X12_common_26 (l : Launch) (D : va_G) (k : Nat → ClassId) (p0 : Int64) (p1 : Int64) (sz : Nat) (hk : 3 * (p0.toInt.natAbs : Int) + 2 * (p1.toInt.natAbs : Int) ≤ 207380 ∧ p1.toInt.natAbs ≤ p0.toInt.natAbs ∧ ¬ p0.toInt = 0) : Met l yX12_common (ww yX12_common cX12_common 4 (some .long)) ({ frames := 26, cells := 0, slots := 0, locals := 598 }) (Pre0 D k [] sz [.long p0, .long p1]) (va_Ql (fun (r : Int64) (_ : Unit) => (¬ r.toInt = 0)) (fun (_ : Unit) tZ => Bw D k (va_A [] sz) [] tZ) (va_A [] sz)) 0 0 (va_A [] sz) := by
  refine Met.ofW (cc := cX12_common) (maxL := 4) (ret := (some .long)) (by decide +kernel) rfl ?_
  intro p e s m args below meth c s₁ B hml hv
  obtain ⟨rfl, hsz, hP, hK, hD0, hN⟩ := hv
  have hx := B.exec
  have hb := B.bytes
  have hr := B.returns
  have hts : ∀ w ∈ TT, w.before _ s = true := fun w h => atoms_spec (ws := ww yX12_common cX12_common 4 (some .long)) B.pre w (List.mem_cons_of_mem _ h)
  have hown : s.vm.findClass RX12 = some m.cls := findClass_of_methodNamed B.named
  have hlocks := B.notSynchronized
  subst hsz
  have hD := hD0.self (sz := s.heap.size)
  generalize hAe : va_A [] s.heap.size = A at hD ⊢
  have hA : ∀ q : Nat, s.heap.size ≤ q → A q := fun q h => by rw [← hAe]; exact Or.inr h
  have hS : va_S A s.heap s.heap [] := va_S.rf
  have hl := lv_entry ([.long p0, .long p1]) (n := 4) (Nat.le_of_ble_eq_true rfl)
  rw [lg_entry_eq]
  generalize (lg_sl ([.long p0, .long p1]) ++ List.replicate (4 - (lg_sl ([.long p0, .long p1])).length) Slot.unset).toArray = ls at hl ⊢
  have hl : lv_has ls 4 [(0, .long p0), (2, .long p1)] := hl
  refine lv_lload_n hx hb dX12_common_0 rfl (lv_at hl 1 rfl) ?_
  refine lv_lconst (v := 0) hx hb dX12_common_1 (by decide) ?_
  refine W.lcmp hx hb dX12_common_2 ?_
  refine lv_if_ne (tgt := 10) hx hb dX12_common_3 (by decide) (fun h_1 => ?_) (fun h_1 => ?_)
  · skip
    have zh_1 : ¬ p1.toInt = 0 := zL_ne h_1 rfl rfl
    refine lv_lload_n hx hb dX12_common_10 rfl (lv_at hl 1 rfl) ?_
    refine lv_lload_n hx hb dX12_common_11 rfl (lv_at hl 0 rfl) ?_
    refine lv_lload_n hx hb dX12_common_12 rfl (lv_at hl 1 rfl) ?_
    refine lv_lrem hx hb dX12_common_13 (fun q9 => by have := congrArg (fun v : Int64 => v.toInt) q9; simp at this; omega) ?_
    refine lv_topl (fun x_2 ex_2 => ?_)
    have zx_2 := zl_rem ex_2 (by omega)
    obtain ⟨hPc, hDc, hFc⟩ := sub3 hP hD hS hA (ws' := []) [] (by decide +kernel) rfl
    refine va_calll (va_runS (As := [.long p1, .long x_2]) (rest := []) ⟨hx, hb, hml, hown, hts⟩ (c_X12_common_25 l D k p1 x_2 s.heap.size (show 3 * (p1.toInt.natAbs : Int) + 2 * (x_2.toInt.natAbs : Int) ≤ 138253 ∧ x_2.toInt.natAbs ≤ p1.toInt.natAbs ∧ ¬ p1.toInt = 0 from by omega)) (va_cwS 2 hts (gS tw_8_192 tw_8_193 tw_1_13 tw_8_194) rfl rfl rfl hdS_X12_common ⟨Nat.le_of_ble_eq_true rfl, Nat.le_of_ble_eq_true rfl⟩) (cz_S hK hPc hDc hN [.long p1, .long x_2]) rfl rfl hl.1 rfl (lv_room (Nat.le_of_ble_eq_true rfl)) dX12_common_14 ⟨Nat.le_of_ble_eq_true rfl, Nat.le_of_ble_eq_true rfl⟩) hS (fun q _ h => hFc q h) hFc (fun r_3 uZ tZ H1 locs ht hvm hw hB hz1 hk1 hS => ?_)
    obtain ⟨hP1, hK1, hD1⟩ := hB
    rw [ht] at hP1
    obtain ⟨hP, hD⟩ := va_join (wr := []) (w1 := []) hP hD [] [] rfl rfl (by decide +kernel) (by decide +kernel) hk1 hFc hP1 hD1
    clear hK1 hP1 hD1 hPc hDc hFc
    clear hk1 hz1 ht hvm
    have hP : va_P D vwCl [] H1 := hP
    have hD : va_D A [] := hD
    generalize H1 = H at hP hS ⊢
    have hw_4 : (¬ r_3.toInt = 0) := hw
    have hw_5 := hw_4
    clear hw
    obtain ⟨hP9, hD9⟩ := sub2 hP hD (ws' := []) [] (by decide +kernel) rfl
    exact W.lret (v := r_3) hx hb hr (fun tZ ht hW => ⟨⟨r_3, (), rfl, (show ¬ r_3.toInt = 0 from by omega), by rw [ht]; exact hP9, va_K.moved hW.alike hK, hD9⟩, hS.F ht⟩) hS.2.2 dX12_common_17
  · skip
    have zh_1 : p1.toInt = 0 := zL_eq h_1 rfl rfl
    refine lv_lload_n hx hb dX12_common_6 rfl (lv_at hl 0 rfl) ?_
    refine lv_goto (tgt := 17) hx hb dX12_common_7 (by decide) ?_
    obtain ⟨hP9, hD9⟩ := sub2 hP hD (ws' := []) [] (by decide +kernel) rfl
    exact W.lret (v := p0) hx hb hr (fun tZ ht hW => ⟨⟨p0, (), rfl, (show ¬ p0.toInt = 0 from by omega), by rw [ht]; exact hP9, va_K.moved hW.alike hK, hD9⟩, hS.F ht⟩) hS.2.2 dX12_common_17
set_option maxHeartbeats 4000000 in
set_option maxRecDepth 100000 in
theorem c_X12_common_27 (l : Launch) (D : va_G) (k : Nat → ClassId) (p0 : Int64) (p1 : Int64) (sz : Nat) (hk : 3 * (p0.toInt.natAbs : Int) + 2 * (p1.toInt.natAbs : Int) ≤ 311071 ∧ p1.toInt.natAbs ≤ p0.toInt.natAbs ∧ ¬ p0.toInt = 0) : Met l yX12_common (ww yX12_common cX12_common 4 (some .long)) ({ frames := 27, cells := 0, slots := 0, locals := 621 }) (Pre0 D k [] sz [.long p0, .long p1]) (va_Ql (fun (r : Int64) (_ : Unit) => (¬ r.toInt = 0)) (fun (_ : Unit) tZ => Bw D k (va_A [] sz) [] tZ) (va_A [] sz)) 0 0 (va_A [] sz) := by
  refine Met.ofW (cc := cX12_common) (maxL := 4) (ret := (some .long)) (by decide +kernel) rfl ?_
  intro p e s m args below meth c s₁ B hml hv
  obtain ⟨rfl, hsz, hP, hK, hD0, hN⟩ := hv
  have hx := B.exec
  have hb := B.bytes
  have hr := B.returns
  have hts : ∀ w ∈ TT, w.before _ s = true := fun w h => atoms_spec (ws := ww yX12_common cX12_common 4 (some .long)) B.pre w (List.mem_cons_of_mem _ h)
  have hown : s.vm.findClass RX12 = some m.cls := findClass_of_methodNamed B.named
  have hlocks := B.notSynchronized
  subst hsz
  have hD := hD0.self (sz := s.heap.size)
  generalize hAe : va_A [] s.heap.size = A at hD ⊢
  have hA : ∀ q : Nat, s.heap.size ≤ q → A q := fun q h => by rw [← hAe]; exact Or.inr h
  have hS : va_S A s.heap s.heap [] := va_S.rf
  have hl := lv_entry ([.long p0, .long p1]) (n := 4) (Nat.le_of_ble_eq_true rfl)
  rw [lg_entry_eq]
  generalize (lg_sl ([.long p0, .long p1]) ++ List.replicate (4 - (lg_sl ([.long p0, .long p1])).length) Slot.unset).toArray = ls at hl ⊢
  have hl : lv_has ls 4 [(0, .long p0), (2, .long p1)] := hl
  refine lv_lload_n hx hb dX12_common_0 rfl (lv_at hl 1 rfl) ?_
  refine lv_lconst (v := 0) hx hb dX12_common_1 (by decide) ?_
  refine W.lcmp hx hb dX12_common_2 ?_
  refine lv_if_ne (tgt := 10) hx hb dX12_common_3 (by decide) (fun h_1 => ?_) (fun h_1 => ?_)
  · skip
    have zh_1 : ¬ p1.toInt = 0 := zL_ne h_1 rfl rfl
    refine lv_lload_n hx hb dX12_common_10 rfl (lv_at hl 1 rfl) ?_
    refine lv_lload_n hx hb dX12_common_11 rfl (lv_at hl 0 rfl) ?_
    refine lv_lload_n hx hb dX12_common_12 rfl (lv_at hl 1 rfl) ?_
    refine lv_lrem hx hb dX12_common_13 (fun q9 => by have := congrArg (fun v : Int64 => v.toInt) q9; simp at this; omega) ?_
    refine lv_topl (fun x_2 ex_2 => ?_)
    have zx_2 := zl_rem ex_2 (by omega)
    obtain ⟨hPc, hDc, hFc⟩ := sub3 hP hD hS hA (ws' := []) [] (by decide +kernel) rfl
    refine va_calll (va_runS (As := [.long p1, .long x_2]) (rest := []) ⟨hx, hb, hml, hown, hts⟩ (c_X12_common_26 l D k p1 x_2 s.heap.size (show 3 * (p1.toInt.natAbs : Int) + 2 * (x_2.toInt.natAbs : Int) ≤ 207380 ∧ x_2.toInt.natAbs ≤ p1.toInt.natAbs ∧ ¬ p1.toInt = 0 from by omega)) (va_cwS 2 hts (gS tw_8_192 tw_8_193 tw_1_13 tw_8_194) rfl rfl rfl hdS_X12_common ⟨Nat.le_of_ble_eq_true rfl, Nat.le_of_ble_eq_true rfl⟩) (cz_S hK hPc hDc hN [.long p1, .long x_2]) rfl rfl hl.1 rfl (lv_room (Nat.le_of_ble_eq_true rfl)) dX12_common_14 ⟨Nat.le_of_ble_eq_true rfl, Nat.le_of_ble_eq_true rfl⟩) hS (fun q _ h => hFc q h) hFc (fun r_3 uZ tZ H1 locs ht hvm hw hB hz1 hk1 hS => ?_)
    obtain ⟨hP1, hK1, hD1⟩ := hB
    rw [ht] at hP1
    obtain ⟨hP, hD⟩ := va_join (wr := []) (w1 := []) hP hD [] [] rfl rfl (by decide +kernel) (by decide +kernel) hk1 hFc hP1 hD1
    clear hK1 hP1 hD1 hPc hDc hFc
    clear hk1 hz1 ht hvm
    have hP : va_P D vwCl [] H1 := hP
    have hD : va_D A [] := hD
    generalize H1 = H at hP hS ⊢
    have hw_4 : (¬ r_3.toInt = 0) := hw
    have hw_5 := hw_4
    clear hw
    obtain ⟨hP9, hD9⟩ := sub2 hP hD (ws' := []) [] (by decide +kernel) rfl
    exact W.lret (v := r_3) hx hb hr (fun tZ ht hW => ⟨⟨r_3, (), rfl, (show ¬ r_3.toInt = 0 from by omega), by rw [ht]; exact hP9, va_K.moved hW.alike hK, hD9⟩, hS.F ht⟩) hS.2.2 dX12_common_17
  · skip
    have zh_1 : p1.toInt = 0 := zL_eq h_1 rfl rfl
    refine lv_lload_n hx hb dX12_common_6 rfl (lv_at hl 0 rfl) ?_
    refine lv_goto (tgt := 17) hx hb dX12_common_7 (by decide) ?_
    obtain ⟨hP9, hD9⟩ := sub2 hP hD (ws' := []) [] (by decide +kernel) rfl
    exact W.lret (v := p0) hx hb hr (fun tZ ht hW => ⟨⟨p0, (), rfl, (show ¬ p0.toInt = 0 from by omega), by rw [ht]; exact hP9, va_K.moved hW.alike hK, hD9⟩, hS.F ht⟩) hS.2.2 dX12_common_17
set_option maxHeartbeats 4000000 in
set_option maxRecDepth 100000 in
theorem c_X12_common_28 (l : Launch) (D : va_G) (k : Nat → ClassId) (p0 : Int64) (p1 : Int64) (sz : Nat) (hk : 3 * (p0.toInt.natAbs : Int) + 2 * (p1.toInt.natAbs : Int) ≤ 466607 ∧ p1.toInt.natAbs ≤ p0.toInt.natAbs ∧ ¬ p0.toInt = 0) : Met l yX12_common (ww yX12_common cX12_common 4 (some .long)) ({ frames := 28, cells := 0, slots := 0, locals := 644 }) (Pre0 D k [] sz [.long p0, .long p1]) (va_Ql (fun (r : Int64) (_ : Unit) => (¬ r.toInt = 0)) (fun (_ : Unit) tZ => Bw D k (va_A [] sz) [] tZ) (va_A [] sz)) 0 0 (va_A [] sz) := by
  refine Met.ofW (cc := cX12_common) (maxL := 4) (ret := (some .long)) (by decide +kernel) rfl ?_
  intro p e s m args below meth c s₁ B hml hv
  obtain ⟨rfl, hsz, hP, hK, hD0, hN⟩ := hv
  have hx := B.exec
  have hb := B.bytes
  have hr := B.returns
  have hts : ∀ w ∈ TT, w.before _ s = true := fun w h => atoms_spec (ws := ww yX12_common cX12_common 4 (some .long)) B.pre w (List.mem_cons_of_mem _ h)
  have hown : s.vm.findClass RX12 = some m.cls := findClass_of_methodNamed B.named
  have hlocks := B.notSynchronized
  subst hsz
  have hD := hD0.self (sz := s.heap.size)
  generalize hAe : va_A [] s.heap.size = A at hD ⊢
  have hA : ∀ q : Nat, s.heap.size ≤ q → A q := fun q h => by rw [← hAe]; exact Or.inr h
  have hS : va_S A s.heap s.heap [] := va_S.rf
  have hl := lv_entry ([.long p0, .long p1]) (n := 4) (Nat.le_of_ble_eq_true rfl)
  rw [lg_entry_eq]
  generalize (lg_sl ([.long p0, .long p1]) ++ List.replicate (4 - (lg_sl ([.long p0, .long p1])).length) Slot.unset).toArray = ls at hl ⊢
  have hl : lv_has ls 4 [(0, .long p0), (2, .long p1)] := hl
  refine lv_lload_n hx hb dX12_common_0 rfl (lv_at hl 1 rfl) ?_
  refine lv_lconst (v := 0) hx hb dX12_common_1 (by decide) ?_
  refine W.lcmp hx hb dX12_common_2 ?_
  refine lv_if_ne (tgt := 10) hx hb dX12_common_3 (by decide) (fun h_1 => ?_) (fun h_1 => ?_)
  · skip
    have zh_1 : ¬ p1.toInt = 0 := zL_ne h_1 rfl rfl
    refine lv_lload_n hx hb dX12_common_10 rfl (lv_at hl 1 rfl) ?_
    refine lv_lload_n hx hb dX12_common_11 rfl (lv_at hl 0 rfl) ?_
    refine lv_lload_n hx hb dX12_common_12 rfl (lv_at hl 1 rfl) ?_
    refine lv_lrem hx hb dX12_common_13 (fun q9 => by have := congrArg (fun v : Int64 => v.toInt) q9; simp at this; omega) ?_
    refine lv_topl (fun x_2 ex_2 => ?_)
    have zx_2 := zl_rem ex_2 (by omega)
    obtain ⟨hPc, hDc, hFc⟩ := sub3 hP hD hS hA (ws' := []) [] (by decide +kernel) rfl
    refine va_calll (va_runS (As := [.long p1, .long x_2]) (rest := []) ⟨hx, hb, hml, hown, hts⟩ (c_X12_common_27 l D k p1 x_2 s.heap.size (show 3 * (p1.toInt.natAbs : Int) + 2 * (x_2.toInt.natAbs : Int) ≤ 311071 ∧ x_2.toInt.natAbs ≤ p1.toInt.natAbs ∧ ¬ p1.toInt = 0 from by omega)) (va_cwS 2 hts (gS tw_8_192 tw_8_193 tw_1_13 tw_8_194) rfl rfl rfl hdS_X12_common ⟨Nat.le_of_ble_eq_true rfl, Nat.le_of_ble_eq_true rfl⟩) (cz_S hK hPc hDc hN [.long p1, .long x_2]) rfl rfl hl.1 rfl (lv_room (Nat.le_of_ble_eq_true rfl)) dX12_common_14 ⟨Nat.le_of_ble_eq_true rfl, Nat.le_of_ble_eq_true rfl⟩) hS (fun q _ h => hFc q h) hFc (fun r_3 uZ tZ H1 locs ht hvm hw hB hz1 hk1 hS => ?_)
    obtain ⟨hP1, hK1, hD1⟩ := hB
    rw [ht] at hP1
    obtain ⟨hP, hD⟩ := va_join (wr := []) (w1 := []) hP hD [] [] rfl rfl (by decide +kernel) (by decide +kernel) hk1 hFc hP1 hD1
    clear hK1 hP1 hD1 hPc hDc hFc
    clear hk1 hz1 ht hvm
    have hP : va_P D vwCl [] H1 := hP
    have hD : va_D A [] := hD
    generalize H1 = H at hP hS ⊢
    have hw_4 : (¬ r_3.toInt = 0) := hw
    have hw_5 := hw_4
    clear hw
    obtain ⟨hP9, hD9⟩ := sub2 hP hD (ws' := []) [] (by decide +kernel) rfl
    exact W.lret (v := r_3) hx hb hr (fun tZ ht hW => ⟨⟨r_3, (), rfl, (show ¬ r_3.toInt = 0 from by omega), by rw [ht]; exact hP9, va_K.moved hW.alike hK, hD9⟩, hS.F ht⟩) hS.2.2 dX12_common_17
  · skip
    have zh_1 : p1.toInt = 0 := zL_eq h_1 rfl rfl
    refine lv_lload_n hx hb dX12_common_6 rfl (lv_at hl 0 rfl) ?_
    refine lv_goto (tgt := 17) hx hb dX12_common_7 (by decide) ?_
    obtain ⟨hP9, hD9⟩ := sub2 hP hD (ws' := []) [] (by decide +kernel) rfl
    exact W.lret (v := p0) hx hb hr (fun tZ ht hW => ⟨⟨p0, (), rfl, (show ¬ p0.toInt = 0 from by omega), by rw [ht]; exact hP9, va_K.moved hW.alike hK, hD9⟩, hS.F ht⟩) hS.2.2 dX12_common_17
set_option maxHeartbeats 4000000 in
set_option maxRecDepth 100000 in
theorem c_X12_common_29 (l : Launch) (D : va_G) (k : Nat → ClassId) (p0 : Int64) (p1 : Int64) (sz : Nat) (hk : 3 * (p0.toInt.natAbs : Int) + 2 * (p1.toInt.natAbs : Int) ≤ 699911 ∧ p1.toInt.natAbs ≤ p0.toInt.natAbs ∧ ¬ p0.toInt = 0) : Met l yX12_common (ww yX12_common cX12_common 4 (some .long)) ({ frames := 29, cells := 0, slots := 0, locals := 667 }) (Pre0 D k [] sz [.long p0, .long p1]) (va_Ql (fun (r : Int64) (_ : Unit) => (¬ r.toInt = 0)) (fun (_ : Unit) tZ => Bw D k (va_A [] sz) [] tZ) (va_A [] sz)) 0 0 (va_A [] sz) := by
  refine Met.ofW (cc := cX12_common) (maxL := 4) (ret := (some .long)) (by decide +kernel) rfl ?_
  intro p e s m args below meth c s₁ B hml hv
  obtain ⟨rfl, hsz, hP, hK, hD0, hN⟩ := hv
  have hx := B.exec
  have hb := B.bytes
  have hr := B.returns
  have hts : ∀ w ∈ TT, w.before _ s = true := fun w h => atoms_spec (ws := ww yX12_common cX12_common 4 (some .long)) B.pre w (List.mem_cons_of_mem _ h)
  have hown : s.vm.findClass RX12 = some m.cls := findClass_of_methodNamed B.named
  have hlocks := B.notSynchronized
  subst hsz
  have hD := hD0.self (sz := s.heap.size)
  generalize hAe : va_A [] s.heap.size = A at hD ⊢
  have hA : ∀ q : Nat, s.heap.size ≤ q → A q := fun q h => by rw [← hAe]; exact Or.inr h
  have hS : va_S A s.heap s.heap [] := va_S.rf
  have hl := lv_entry ([.long p0, .long p1]) (n := 4) (Nat.le_of_ble_eq_true rfl)
  rw [lg_entry_eq]
  generalize (lg_sl ([.long p0, .long p1]) ++ List.replicate (4 - (lg_sl ([.long p0, .long p1])).length) Slot.unset).toArray = ls at hl ⊢
  have hl : lv_has ls 4 [(0, .long p0), (2, .long p1)] := hl
  refine lv_lload_n hx hb dX12_common_0 rfl (lv_at hl 1 rfl) ?_
  refine lv_lconst (v := 0) hx hb dX12_common_1 (by decide) ?_
  refine W.lcmp hx hb dX12_common_2 ?_
  refine lv_if_ne (tgt := 10) hx hb dX12_common_3 (by decide) (fun h_1 => ?_) (fun h_1 => ?_)
  · skip
    have zh_1 : ¬ p1.toInt = 0 := zL_ne h_1 rfl rfl
    refine lv_lload_n hx hb dX12_common_10 rfl (lv_at hl 1 rfl) ?_
    refine lv_lload_n hx hb dX12_common_11 rfl (lv_at hl 0 rfl) ?_
    refine lv_lload_n hx hb dX12_common_12 rfl (lv_at hl 1 rfl) ?_
    refine lv_lrem hx hb dX12_common_13 (fun q9 => by have := congrArg (fun v : Int64 => v.toInt) q9; simp at this; omega) ?_
    refine lv_topl (fun x_2 ex_2 => ?_)
    have zx_2 := zl_rem ex_2 (by omega)
    obtain ⟨hPc, hDc, hFc⟩ := sub3 hP hD hS hA (ws' := []) [] (by decide +kernel) rfl
    refine va_calll (va_runS (As := [.long p1, .long x_2]) (rest := []) ⟨hx, hb, hml, hown, hts⟩ (c_X12_common_28 l D k p1 x_2 s.heap.size (show 3 * (p1.toInt.natAbs : Int) + 2 * (x_2.toInt.natAbs : Int) ≤ 466607 ∧ x_2.toInt.natAbs ≤ p1.toInt.natAbs ∧ ¬ p1.toInt = 0 from by omega)) (va_cwS 2 hts (gS tw_8_192 tw_8_193 tw_1_13 tw_8_194) rfl rfl rfl hdS_X12_common ⟨Nat.le_of_ble_eq_true rfl, Nat.le_of_ble_eq_true rfl⟩) (cz_S hK hPc hDc hN [.long p1, .long x_2]) rfl rfl hl.1 rfl (lv_room (Nat.le_of_ble_eq_true rfl)) dX12_common_14 ⟨Nat.le_of_ble_eq_true rfl, Nat.le_of_ble_eq_true rfl⟩) hS (fun q _ h => hFc q h) hFc (fun r_3 uZ tZ H1 locs ht hvm hw hB hz1 hk1 hS => ?_)
    obtain ⟨hP1, hK1, hD1⟩ := hB
    rw [ht] at hP1
    obtain ⟨hP, hD⟩ := va_join (wr := []) (w1 := []) hP hD [] [] rfl rfl (by decide +kernel) (by decide +kernel) hk1 hFc hP1 hD1
    clear hK1 hP1 hD1 hPc hDc hFc
    clear hk1 hz1 ht hvm
    have hP : va_P D vwCl [] H1 := hP
    have hD : va_D A [] := hD
    generalize H1 = H at hP hS ⊢
    have hw_4 : (¬ r_3.toInt = 0) := hw
    have hw_5 := hw_4
    clear hw
    obtain ⟨hP9, hD9⟩ := sub2 hP hD (ws' := []) [] (by decide +kernel) rfl
    exact W.lret (v := r_3) hx hb hr (fun tZ ht hW => ⟨⟨r_3, (), rfl, (show ¬ r_3.toInt = 0 from by omega), by rw [ht]; exact hP9, va_K.moved hW.alike hK, hD9⟩, hS.F ht⟩) hS.2.2 dX12_common_17
  · skip
    have zh_1 : p1.toInt = 0 := zL_eq h_1 rfl rfl
    refine lv_lload_n hx hb dX12_common_6 rfl (lv_at hl 0 rfl) ?_
    refine lv_goto (tgt := 17) hx hb dX12_common_7 (by decide) ?_
    obtain ⟨hP9, hD9⟩ := sub2 hP hD (ws' := []) [] (by decide +kernel) rfl
    exact W.lret (v := p0) hx hb hr (fun tZ ht hW => ⟨⟨p0, (), rfl, (show ¬ p0.toInt = 0 from by omega), by rw [ht]; exact hP9, va_K.moved hW.alike hK, hD9⟩, hS.F ht⟩) hS.2.2 dX12_common_17
set_option maxHeartbeats 4000000 in
set_option maxRecDepth 100000 in
theorem c_X12_common_30 (l : Launch) (D : va_G) (k : Nat → ClassId) (p0 : Int64) (p1 : Int64) (sz : Nat) (hk : 3 * (p0.toInt.natAbs : Int) + 2 * (p1.toInt.natAbs : Int) ≤ 1049867 ∧ p1.toInt.natAbs ≤ p0.toInt.natAbs ∧ ¬ p0.toInt = 0) : Met l yX12_common (ww yX12_common cX12_common 4 (some .long)) ({ frames := 30, cells := 0, slots := 0, locals := 690 }) (Pre0 D k [] sz [.long p0, .long p1]) (va_Ql (fun (r : Int64) (_ : Unit) => (¬ r.toInt = 0)) (fun (_ : Unit) tZ => Bw D k (va_A [] sz) [] tZ) (va_A [] sz)) 0 0 (va_A [] sz) := by
  refine Met.ofW (cc := cX12_common) (maxL := 4) (ret := (some .long)) (by decide +kernel) rfl ?_
  intro p e s m args below meth c s₁ B hml hv
  obtain ⟨rfl, hsz, hP, hK, hD0, hN⟩ := hv
  have hx := B.exec
  have hb := B.bytes
  have hr := B.returns
  have hts : ∀ w ∈ TT, w.before _ s = true := fun w h => atoms_spec (ws := ww yX12_common cX12_common 4 (some .long)) B.pre w (List.mem_cons_of_mem _ h)
  have hown : s.vm.findClass RX12 = some m.cls := findClass_of_methodNamed B.named
  have hlocks := B.notSynchronized
  subst hsz
  have hD := hD0.self (sz := s.heap.size)
  generalize hAe : va_A [] s.heap.size = A at hD ⊢
  have hA : ∀ q : Nat, s.heap.size ≤ q → A q := fun q h => by rw [← hAe]; exact Or.inr h
  have hS : va_S A s.heap s.heap [] := va_S.rf
  have hl := lv_entry ([.long p0, .long p1]) (n := 4) (Nat.le_of_ble_eq_true rfl)
  rw [lg_entry_eq]
  generalize (lg_sl ([.long p0, .long p1]) ++ List.replicate (4 - (lg_sl ([.long p0, .long p1])).length) Slot.unset).toArray = ls at hl ⊢
  have hl : lv_has ls 4 [(0, .long p0), (2, .long p1)] := hl
  refine lv_lload_n hx hb dX12_common_0 rfl (lv_at hl 1 rfl) ?_
  refine lv_lconst (v := 0) hx hb dX12_common_1 (by decide) ?_
  refine W.lcmp hx hb dX12_common_2 ?_
  refine lv_if_ne (tgt := 10) hx hb dX12_common_3 (by decide) (fun h_1 => ?_) (fun h_1 => ?_)
  · skip
    have zh_1 : ¬ p1.toInt = 0 := zL_ne h_1 rfl rfl
    refine lv_lload_n hx hb dX12_common_10 rfl (lv_at hl 1 rfl) ?_
    refine lv_lload_n hx hb dX12_common_11 rfl (lv_at hl 0 rfl) ?_
    refine lv_lload_n hx hb dX12_common_12 rfl (lv_at hl 1 rfl) ?_
    refine lv_lrem hx hb dX12_common_13 (fun q9 => by have := congrArg (fun v : Int64 => v.toInt) q9; simp at this; omega) ?_
    refine lv_topl (fun x_2 ex_2 => ?_)
    have zx_2 := zl_rem ex_2 (by omega)
    obtain ⟨hPc, hDc, hFc⟩ := sub3 hP hD hS hA (ws' := []) [] (by decide +kernel) rfl
    refine va_calll (va_runS (As := [.long p1, .long x_2]) (rest := []) ⟨hx, hb, hml, hown, hts⟩ (c_X12_common_29 l D k p1 x_2 s.heap.size (show 3 * (p1.toInt.natAbs : Int) + 2 * (x_2.toInt.natAbs : Int) ≤ 699911 ∧ x_2.toInt.natAbs ≤ p1.toInt.natAbs ∧ ¬ p1.toInt = 0 from by omega)) (va_cwS 2 hts (gS tw_8_192 tw_8_193 tw_1_13 tw_8_194) rfl rfl rfl hdS_X12_common ⟨Nat.le_of_ble_eq_true rfl, Nat.le_of_ble_eq_true rfl⟩) (cz_S hK hPc hDc hN [.long p1, .long x_2]) rfl rfl hl.1 rfl (lv_room (Nat.le_of_ble_eq_true rfl)) dX12_common_14 ⟨Nat.le_of_ble_eq_true rfl, Nat.le_of_ble_eq_true rfl⟩) hS (fun q _ h => hFc q h) hFc (fun r_3 uZ tZ H1 locs ht hvm hw hB hz1 hk1 hS => ?_)
    obtain ⟨hP1, hK1, hD1⟩ := hB
    rw [ht] at hP1
    obtain ⟨hP, hD⟩ := va_join (wr := []) (w1 := []) hP hD [] [] rfl rfl (by decide +kernel) (by decide +kernel) hk1 hFc hP1 hD1
    clear hK1 hP1 hD1 hPc hDc hFc
    clear hk1 hz1 ht hvm
    have hP : va_P D vwCl [] H1 := hP
    have hD : va_D A [] := hD
    generalize H1 = H at hP hS ⊢
    have hw_4 : (¬ r_3.toInt = 0) := hw
    have hw_5 := hw_4
    clear hw
    obtain ⟨hP9, hD9⟩ := sub2 hP hD (ws' := []) [] (by decide +kernel) rfl
    exact W.lret (v := r_3) hx hb hr (fun tZ ht hW => ⟨⟨r_3, (), rfl, (show ¬ r_3.toInt = 0 from by omega), by rw [ht]; exact hP9, va_K.moved hW.alike hK, hD9⟩, hS.F ht⟩) hS.2.2 dX12_common_17
  · skip
    have zh_1 : p1.toInt = 0 := zL_eq h_1 rfl rfl
    refine lv_lload_n hx hb dX12_common_6 rfl (lv_at hl 0 rfl) ?_
    refine lv_goto (tgt := 17) hx hb dX12_common_7 (by decide) ?_
    obtain ⟨hP9, hD9⟩ := sub2 hP hD (ws' := []) [] (by decide +kernel) rfl
    exact W.lret (v := p0) hx hb hr (fun tZ ht hW => ⟨⟨p0, (), rfl, (show ¬ p0.toInt = 0 from by omega), by rw [ht]; exact hP9, va_K.moved hW.alike hK, hD9⟩, hS.F ht⟩) hS.2.2 dX12_common_17
set_option maxHeartbeats 4000000 in
set_option maxRecDepth 100000 in
theorem c_X12_common_31 (l : Launch) (D : va_G) (k : Nat → ClassId) (p0 : Int64) (p1 : Int64) (sz : Nat) (hk : 3 * (p0.toInt.natAbs : Int) + 2 * (p1.toInt.natAbs : Int) ≤ 1574801 ∧ p1.toInt.natAbs ≤ p0.toInt.natAbs ∧ ¬ p0.toInt = 0) : Met l yX12_common (ww yX12_common cX12_common 4 (some .long)) ({ frames := 31, cells := 0, slots := 0, locals := 713 }) (Pre0 D k [] sz [.long p0, .long p1]) (va_Ql (fun (r : Int64) (_ : Unit) => (¬ r.toInt = 0)) (fun (_ : Unit) tZ => Bw D k (va_A [] sz) [] tZ) (va_A [] sz)) 0 0 (va_A [] sz) := by
  refine Met.ofW (cc := cX12_common) (maxL := 4) (ret := (some .long)) (by decide +kernel) rfl ?_
  intro p e s m args below meth c s₁ B hml hv
  obtain ⟨rfl, hsz, hP, hK, hD0, hN⟩ := hv
  have hx := B.exec
  have hb := B.bytes
  have hr := B.returns
  have hts : ∀ w ∈ TT, w.before _ s = true := fun w h => atoms_spec (ws := ww yX12_common cX12_common 4 (some .long)) B.pre w (List.mem_cons_of_mem _ h)
  have hown : s.vm.findClass RX12 = some m.cls := findClass_of_methodNamed B.named
  have hlocks := B.notSynchronized
  subst hsz
  have hD := hD0.self (sz := s.heap.size)
  generalize hAe : va_A [] s.heap.size = A at hD ⊢
  have hA : ∀ q : Nat, s.heap.size ≤ q → A q := fun q h => by rw [← hAe]; exact Or.inr h
  have hS : va_S A s.heap s.heap [] := va_S.rf
  have hl := lv_entry ([.long p0, .long p1]) (n := 4) (Nat.le_of_ble_eq_true rfl)
  rw [lg_entry_eq]
  generalize (lg_sl ([.long p0, .long p1]) ++ List.replicate (4 - (lg_sl ([.long p0, .long p1])).length) Slot.unset).toArray = ls at hl ⊢
  have hl : lv_has ls 4 [(0, .long p0), (2, .long p1)] := hl
  refine lv_lload_n hx hb dX12_common_0 rfl (lv_at hl 1 rfl) ?_
  refine lv_lconst (v := 0) hx hb dX12_common_1 (by decide) ?_
  refine W.lcmp hx hb dX12_common_2 ?_
  refine lv_if_ne (tgt := 10) hx hb dX12_common_3 (by decide) (fun h_1 => ?_) (fun h_1 => ?_)
  · skip
    have zh_1 : ¬ p1.toInt = 0 := zL_ne h_1 rfl rfl
    refine lv_lload_n hx hb dX12_common_10 rfl (lv_at hl 1 rfl) ?_
    refine lv_lload_n hx hb dX12_common_11 rfl (lv_at hl 0 rfl) ?_
    refine lv_lload_n hx hb dX12_common_12 rfl (lv_at hl 1 rfl) ?_
    refine lv_lrem hx hb dX12_common_13 (fun q9 => by have := congrArg (fun v : Int64 => v.toInt) q9; simp at this; omega) ?_
    refine lv_topl (fun x_2 ex_2 => ?_)
    have zx_2 := zl_rem ex_2 (by omega)
    obtain ⟨hPc, hDc, hFc⟩ := sub3 hP hD hS hA (ws' := []) [] (by decide +kernel) rfl
    refine va_calll (va_runS (As := [.long p1, .long x_2]) (rest := []) ⟨hx, hb, hml, hown, hts⟩ (c_X12_common_30 l D k p1 x_2 s.heap.size (show 3 * (p1.toInt.natAbs : Int) + 2 * (x_2.toInt.natAbs : Int) ≤ 1049867 ∧ x_2.toInt.natAbs ≤ p1.toInt.natAbs ∧ ¬ p1.toInt = 0 from by omega)) (va_cwS 2 hts (gS tw_8_192 tw_8_193 tw_1_13 tw_8_194) rfl rfl rfl hdS_X12_common ⟨Nat.le_of_ble_eq_true rfl, Nat.le_of_ble_eq_true rfl⟩) (cz_S hK hPc hDc hN [.long p1, .long x_2]) rfl rfl hl.1 rfl (lv_room (Nat.le_of_ble_eq_true rfl)) dX12_common_14 ⟨Nat.le_of_ble_eq_true rfl, Nat.le_of_ble_eq_true rfl⟩) hS (fun q _ h => hFc q h) hFc (fun r_3 uZ tZ H1 locs ht hvm hw hB hz1 hk1 hS => ?_)
    obtain ⟨hP1, hK1, hD1⟩ := hB
    rw [ht] at hP1
    obtain ⟨hP, hD⟩ := va_join (wr := []) (w1 := []) hP hD [] [] rfl rfl (by decide +kernel) (by decide +kernel) hk1 hFc hP1 hD1
    clear hK1 hP1 hD1 hPc hDc hFc
    clear hk1 hz1 ht hvm
    have hP : va_P D vwCl [] H1 := hP
    have hD : va_D A [] := hD
    generalize H1 = H at hP hS ⊢
    have hw_4 : (¬ r_3.toInt = 0) := hw
    have hw_5 := hw_4
    clear hw
    obtain ⟨hP9, hD9⟩ := sub2 hP hD (ws' := []) [] (by decide +kernel) rfl
    exact W.lret (v := r_3) hx hb hr (fun tZ ht hW => ⟨⟨r_3, (), rfl, (show ¬ r_3.toInt = 0 from by omega), by rw [ht]; exact hP9, va_K.moved hW.alike hK, hD9⟩, hS.F ht⟩) hS.2.2 dX12_common_17
  · skip
    have zh_1 : p1.toInt = 0 := zL_eq h_1 rfl rfl
    refine lv_lload_n hx hb dX12_common_6 rfl (lv_at hl 0 rfl) ?_
    refine lv_goto (tgt := 17) hx hb dX12_common_7 (by decide) ?_
    obtain ⟨hP9, hD9⟩ := sub2 hP hD (ws' := []) [] (by decide +kernel) rfl
    exact W.lret (v := p0) hx hb hr (fun tZ ht hW => ⟨⟨p0, (), rfl, (show ¬ p0.toInt = 0 from by omega), by rw [ht]; exact hP9, va_K.moved hW.alike hK, hD9⟩, hS.F ht⟩) hS.2.2 dX12_common_17
set_option maxHeartbeats 4000000 in
set_option maxRecDepth 100000 in
theorem c_X12_common_32 (l : Launch) (D : va_G) (k : Nat → ClassId) (p0 : Int64) (p1 : Int64) (sz : Nat) (hk : 3 * (p0.toInt.natAbs : Int) + 2 * (p1.toInt.natAbs : Int) ≤ 2362202 ∧ p1.toInt.natAbs ≤ p0.toInt.natAbs ∧ ¬ p0.toInt = 0) : Met l yX12_common (ww yX12_common cX12_common 4 (some .long)) ({ frames := 32, cells := 0, slots := 0, locals := 736 }) (Pre0 D k [] sz [.long p0, .long p1]) (va_Ql (fun (r : Int64) (_ : Unit) => (¬ r.toInt = 0)) (fun (_ : Unit) tZ => Bw D k (va_A [] sz) [] tZ) (va_A [] sz)) 0 0 (va_A [] sz) := by
  refine Met.ofW (cc := cX12_common) (maxL := 4) (ret := (some .long)) (by decide +kernel) rfl ?_
  intro p e s m args below meth c s₁ B hml hv
  obtain ⟨rfl, hsz, hP, hK, hD0, hN⟩ := hv
  have hx := B.exec
  have hb := B.bytes
  have hr := B.returns
  have hts : ∀ w ∈ TT, w.before _ s = true := fun w h => atoms_spec (ws := ww yX12_common cX12_common 4 (some .long)) B.pre w (List.mem_cons_of_mem _ h)
  have hown : s.vm.findClass RX12 = some m.cls := findClass_of_methodNamed B.named
  have hlocks := B.notSynchronized
  subst hsz
  have hD := hD0.self (sz := s.heap.size)
  generalize hAe : va_A [] s.heap.size = A at hD ⊢
  have hA : ∀ q : Nat, s.heap.size ≤ q → A q := fun q h => by rw [← hAe]; exact Or.inr h
  have hS : va_S A s.heap s.heap [] := va_S.rf
  have hl := lv_entry ([.long p0, .long p1]) (n := 4) (Nat.le_of_ble_eq_true rfl)
  rw [lg_entry_eq]
  generalize (lg_sl ([.long p0, .long p1]) ++ List.replicate (4 - (lg_sl ([.long p0, .long p1])).length) Slot.unset).toArray = ls at hl ⊢
  have hl : lv_has ls 4 [(0, .long p0), (2, .long p1)] := hl
  refine lv_lload_n hx hb dX12_common_0 rfl (lv_at hl 1 rfl) ?_
  refine lv_lconst (v := 0) hx hb dX12_common_1 (by decide) ?_
  refine W.lcmp hx hb dX12_common_2 ?_
  refine lv_if_ne (tgt := 10) hx hb dX12_common_3 (by decide) (fun h_1 => ?_) (fun h_1 => ?_)
  · skip
    have zh_1 : ¬ p1.toInt = 0 := zL_ne h_1 rfl rfl
    refine lv_lload_n hx hb dX12_common_10 rfl (lv_at hl 1 rfl) ?_
    refine lv_lload_n hx hb dX12_common_11 rfl (lv_at hl 0 rfl) ?_
    refine lv_lload_n hx hb dX12_common_12 rfl (lv_at hl 1 rfl) ?_
    refine lv_lrem hx hb dX12_common_13 (fun q9 => by have := congrArg (fun v : Int64 => v.toInt) q9; simp at this; omega) ?_
    refine lv_topl (fun x_2 ex_2 => ?_)
    have zx_2 := zl_rem ex_2 (by omega)
    obtain ⟨hPc, hDc, hFc⟩ := sub3 hP hD hS hA (ws' := []) [] (by decide +kernel) rfl
    refine va_calll (va_runS (As := [.long p1, .long x_2]) (rest := []) ⟨hx, hb, hml, hown, hts⟩ (c_X12_common_31 l D k p1 x_2 s.heap.size (show 3 * (p1.toInt.natAbs : Int) + 2 * (x_2.toInt.natAbs : Int) ≤ 1574801 ∧ x_2.toInt.natAbs ≤ p1.toInt.natAbs ∧ ¬ p1.toInt = 0 from by omega)) (va_cwS 2 hts (gS tw_8_192 tw_8_193 tw_1_13 tw_8_194) rfl rfl rfl hdS_X12_common ⟨Nat.le_of_ble_eq_true rfl, Nat.le_of_ble_eq_true rfl⟩) (cz_S hK hPc hDc hN [.long p1, .long x_2]) rfl rfl hl.1 rfl (lv_room (Nat.le_of_ble_eq_true rfl)) dX12_common_14 ⟨Nat.le_of_ble_eq_true rfl, Nat.le_of_ble_eq_true rfl⟩) hS (fun q _ h => hFc q h) hFc (fun r_3 uZ tZ H1 locs ht hvm hw hB hz1 hk1 hS => ?_)
    obtain ⟨hP1, hK1, hD1⟩ := hB
    rw [ht] at hP1
    obtain ⟨hP, hD⟩ := va_join (wr := []) (w1 := []) hP hD [] [] rfl rfl (by decide +kernel) (by decide +kernel) hk1 hFc hP1 hD1
    clear hK1 hP1 hD1 hPc hDc hFc
    clear hk1 hz1 ht hvm
    have hP : va_P D vwCl [] H1 := hP
    have hD : va_D A [] := hD
    generalize H1 = H at hP hS ⊢
    have hw_4 : (¬ r_3.toInt = 0) := hw
    have hw_5 := hw_4
    clear hw
    obtain ⟨hP9, hD9⟩ := sub2 hP hD (ws' := []) [] (by decide +kernel) rfl
    exact W.lret (v := r_3) hx hb hr (fun tZ ht hW => ⟨⟨r_3, (), rfl, (show ¬ r_3.toInt = 0 from by omega), by rw [ht]; exact hP9, va_K.moved hW.alike hK, hD9⟩, hS.F ht⟩) hS.2.2 dX12_common_17
  · skip
    have zh_1 : p1.toInt = 0 := zL_eq h_1 rfl rfl
    refine lv_lload_n hx hb dX12_common_6 rfl (lv_at hl 0 rfl) ?_
    refine lv_goto (tgt := 17) hx hb dX12_common_7 (by decide) ?_
    obtain ⟨hP9, hD9⟩ := sub2 hP hD (ws' := []) [] (by decide +kernel) rfl
    exact W.lret (v := p0) hx hb hr (fun tZ ht hW => ⟨⟨p0, (), rfl, (show ¬ p0.toInt = 0 from by omega), by rw [ht]; exact hP9, va_K.moved hW.alike hK, hD9⟩, hS.F ht⟩) hS.2.2 dX12_common_17
set_option maxHeartbeats 4000000 in
set_option maxRecDepth 100000 in
theorem c_X12_common_33 (l : Launch) (D : va_G) (k : Nat → ClassId) (p0 : Int64) (p1 : Int64) (sz : Nat) (hk : 3 * (p0.toInt.natAbs : Int) + 2 * (p1.toInt.natAbs : Int) ≤ 3543304 ∧ p1.toInt.natAbs ≤ p0.toInt.natAbs ∧ ¬ p0.toInt = 0) : Met l yX12_common (ww yX12_common cX12_common 4 (some .long)) ({ frames := 33, cells := 0, slots := 0, locals := 759 }) (Pre0 D k [] sz [.long p0, .long p1]) (va_Ql (fun (r : Int64) (_ : Unit) => (¬ r.toInt = 0)) (fun (_ : Unit) tZ => Bw D k (va_A [] sz) [] tZ) (va_A [] sz)) 0 0 (va_A [] sz) := by
  refine Met.ofW (cc := cX12_common) (maxL := 4) (ret := (some .long)) (by decide +kernel) rfl ?_
  intro p e s m args below meth c s₁ B hml hv
  obtain ⟨rfl, hsz, hP, hK, hD0, hN⟩ := hv
  have hx := B.exec
  have hb := B.bytes
  have hr := B.returns
  have hts : ∀ w ∈ TT, w.before _ s = true := fun w h => atoms_spec (ws := ww yX12_common cX12_common 4 (some .long)) B.pre w (List.mem_cons_of_mem _ h)
  have hown : s.vm.findClass RX12 = some m.cls := findClass_of_methodNamed B.named
  have hlocks := B.notSynchronized
  subst hsz
  have hD := hD0.self (sz := s.heap.size)
  generalize hAe : va_A [] s.heap.size = A at hD ⊢
  have hA : ∀ q : Nat, s.heap.size ≤ q → A q := fun q h => by rw [← hAe]; exact Or.inr h
  have hS : va_S A s.heap s.heap [] := va_S.rf
  have hl := lv_entry ([.long p0, .long p1]) (n := 4) (Nat.le_of_ble_eq_true rfl)
  rw [lg_entry_eq]
  generalize (lg_sl ([.long p0, .long p1]) ++ List.replicate (4 - (lg_sl ([.long p0, .long p1])).length) Slot.unset).toArray = ls at hl ⊢
  have hl : lv_has ls 4 [(0, .long p0), (2, .long p1)] := hl
  refine lv_lload_n hx hb dX12_common_0 rfl (lv_at hl 1 rfl) ?_
  refine lv_lconst (v := 0) hx hb dX12_common_1 (by decide) ?_
  refine W.lcmp hx hb dX12_common_2 ?_
  refine lv_if_ne (tgt := 10) hx hb dX12_common_3 (by decide) (fun h_1 => ?_) (fun h_1 => ?_)
  · skip
    have zh_1 : ¬ p1.toInt = 0 := zL_ne h_1 rfl rfl
    refine lv_lload_n hx hb dX12_common_10 rfl (lv_at hl 1 rfl) ?_
    refine lv_lload_n hx hb dX12_common_11 rfl (lv_at hl 0 rfl) ?_
    refine lv_lload_n hx hb dX12_common_12 rfl (lv_at hl 1 rfl) ?_
    refine lv_lrem hx hb dX12_common_13 (fun q9 => by have := congrArg (fun v : Int64 => v.toInt) q9; simp at this; omega) ?_
    refine lv_topl (fun x_2 ex_2 => ?_)
    have zx_2 := zl_rem ex_2 (by omega)
    obtain ⟨hPc, hDc, hFc⟩ := sub3 hP hD hS hA (ws' := []) [] (by decide +kernel) rfl
    refine va_calll (va_runS (As := [.long p1, .long x_2]) (rest := []) ⟨hx, hb, hml, hown, hts⟩ (c_X12_common_32 l D k p1 x_2 s.heap.size (show 3 * (p1.toInt.natAbs : Int) + 2 * (x_2.toInt.natAbs : Int) ≤ 2362202 ∧ x_2.toInt.natAbs ≤ p1.toInt.natAbs ∧ ¬ p1.toInt = 0 from by omega)) (va_cwS 2 hts (gS tw_8_192 tw_8_193 tw_1_13 tw_8_194) rfl rfl rfl hdS_X12_common ⟨Nat.le_of_ble_eq_true rfl, Nat.le_of_ble_eq_true rfl⟩) (cz_S hK hPc hDc hN [.long p1, .long x_2]) rfl rfl hl.1 rfl (lv_room (Nat.le_of_ble_eq_true rfl)) dX12_common_14 ⟨Nat.le_of_ble_eq_true rfl, Nat.le_of_ble_eq_true rfl⟩) hS (fun q _ h => hFc q h) hFc (fun r_3 uZ tZ H1 locs ht hvm hw hB hz1 hk1 hS => ?_)
    obtain ⟨hP1, hK1, hD1⟩ := hB
    rw [ht] at hP1
    obtain ⟨hP, hD⟩ := va_join (wr := []) (w1 := []) hP hD [] [] rfl rfl (by decide +kernel) (by decide +kernel) hk1 hFc hP1 hD1
    clear hK1 hP1 hD1 hPc hDc hFc
    clear hk1 hz1 ht hvm
    have hP : va_P D vwCl [] H1 := hP
    have hD : va_D A [] := hD
    generalize H1 = H at hP hS ⊢
    have hw_4 : (¬ r_3.toInt = 0) := hw
    have hw_5 := hw_4
    clear hw
    obtain ⟨hP9, hD9⟩ := sub2 hP hD (ws' := []) [] (by decide +kernel) rfl
    exact W.lret (v := r_3) hx hb hr (fun tZ ht hW => ⟨⟨r_3, (), rfl, (show ¬ r_3.toInt = 0 from by omega), by rw [ht]; exact hP9, va_K.moved hW.alike hK, hD9⟩, hS.F ht⟩) hS.2.2 dX12_common_17
  · skip
    have zh_1 : p1.toInt = 0 := zL_eq h_1 rfl rfl
    refine lv_lload_n hx hb dX12_common_6 rfl (lv_at hl 0 rfl) ?_
    refine lv_goto (tgt := 17) hx hb dX12_common_7 (by decide) ?_
    obtain ⟨hP9, hD9⟩ := sub2 hP hD (ws' := []) [] (by decide +kernel) rfl
    exact W.lret (v := p0) hx hb hr (fun tZ ht hW => ⟨⟨p0, (), rfl, (show ¬ p0.toInt = 0 from by omega), by rw [ht]; exact hP9, va_K.moved hW.alike hK, hD9⟩, hS.F ht⟩) hS.2.2 dX12_common_17
set_option maxHeartbeats 4000000 in
set_option maxRecDepth 100000 in
theorem c_X12_common_34 (l : Launch) (D : va_G) (k : Nat → ClassId) (p0 : Int64) (p1 : Int64) (sz : Nat) (hk : 3 * (p0.toInt.natAbs : Int) + 2 * (p1.toInt.natAbs : Int) ≤ 5314957 ∧ p1.toInt.natAbs ≤ p0.toInt.natAbs ∧ ¬ p0.toInt = 0) : Met l yX12_common (ww yX12_common cX12_common 4 (some .long)) ({ frames := 34, cells := 0, slots := 0, locals := 782 }) (Pre0 D k [] sz [.long p0, .long p1]) (va_Ql (fun (r : Int64) (_ : Unit) => (¬ r.toInt = 0)) (fun (_ : Unit) tZ => Bw D k (va_A [] sz) [] tZ) (va_A [] sz)) 0 0 (va_A [] sz) := by
  refine Met.ofW (cc := cX12_common) (maxL := 4) (ret := (some .long)) (by decide +kernel) rfl ?_
  intro p e s m args below meth c s₁ B hml hv
  obtain ⟨rfl, hsz, hP, hK, hD0, hN⟩ := hv
  have hx := B.exec
  have hb := B.bytes
  have hr := B.returns
  have hts : ∀ w ∈ TT, w.before _ s = true := fun w h => atoms_spec (ws := ww yX12_common cX12_common 4 (some .long)) B.pre w (List.mem_cons_of_mem _ h)
  have hown : s.vm.findClass RX12 = some m.cls := findClass_of_methodNamed B.named
  have hlocks := B.notSynchronized
  subst hsz
  have hD := hD0.self (sz := s.heap.size)
  generalize hAe : va_A [] s.heap.size = A at hD ⊢
  have hA : ∀ q : Nat, s.heap.size ≤ q → A q := fun q h => by rw [← hAe]; exact Or.inr h
  have hS : va_S A s.heap s.heap [] := va_S.rf
  have hl := lv_entry ([.long p0, .long p1]) (n := 4) (Nat.le_of_ble_eq_true rfl)
  rw [lg_entry_eq]
  generalize (lg_sl ([.long p0, .long p1]) ++ List.replicate (4 - (lg_sl ([.long p0, .long p1])).length) Slot.unset).toArray = ls at hl ⊢
  have hl : lv_has ls 4 [(0, .long p0), (2, .long p1)] := hl
  refine lv_lload_n hx hb dX12_common_0 rfl (lv_at hl 1 rfl) ?_
  refine lv_lconst (v := 0) hx hb dX12_common_1 (by decide) ?_
  refine W.lcmp hx hb dX12_common_2 ?_
  refine lv_if_ne (tgt := 10) hx hb dX12_common_3 (by decide) (fun h_1 => ?_) (fun h_1 => ?_)
  · skip
    have zh_1 : ¬ p1.toInt = 0 := zL_ne h_1 rfl rfl
    refine lv_lload_n hx hb dX12_common_10 rfl (lv_at hl 1 rfl) ?_
    refine lv_lload_n hx hb dX12_common_11 rfl (lv_at hl 0 rfl) ?_
    refine lv_lload_n hx hb dX12_common_12 rfl (lv_at hl 1 rfl) ?_
    refine lv_lrem hx hb dX12_common_13 (fun q9 => by have := congrArg (fun v : Int64 => v.toInt) q9; simp at this; omega) ?_
    refine lv_topl (fun x_2 ex_2 => ?_)
    have zx_2 := zl_rem ex_2 (by omega)
    obtain ⟨hPc, hDc, hFc⟩ := sub3 hP hD hS hA (ws' := []) [] (by decide +kernel) rfl
    refine va_calll (va_runS (As := [.long p1, .long x_2]) (rest := []) ⟨hx, hb, hml, hown, hts⟩ (c_X12_common_33 l D k p1 x_2 s.heap.size (show 3 * (p1.toInt.natAbs : Int) + 2 * (x_2.toInt.natAbs : Int) ≤ 3543304 ∧ x_2.toInt.natAbs ≤ p1.toInt.natAbs ∧ ¬ p1.toInt = 0 from by omega)) (va_cwS 2 hts (gS tw_8_192 tw_8_193 tw_1_13 tw_8_194) rfl rfl rfl hdS_X12_common ⟨Nat.le_of_ble_eq_true rfl, Nat.le_of_ble_eq_true rfl⟩) (cz_S hK hPc hDc hN [.long p1, .long x_2]) rfl rfl hl.1 rfl (lv_room (Nat.le_of_ble_eq_true rfl)) dX12_common_14 ⟨Nat.le_of_ble_eq_true rfl, Nat.le_of_ble_eq_true rfl⟩) hS (fun q _ h => hFc q h) hFc (fun r_3 uZ tZ H1 locs ht hvm hw hB hz1 hk1 hS => ?_)
    obtain ⟨hP1, hK1, hD1⟩ := hB
    rw [ht] at hP1
    obtain ⟨hP, hD⟩ := va_join (wr := []) (w1 := []) hP hD [] [] rfl rfl (by decide +kernel) (by decide +kernel) hk1 hFc hP1 hD1
    clear hK1 hP1 hD1 hPc hDc hFc
    clear hk1 hz1 ht hvm
    have hP : va_P D vwCl [] H1 := hP
    have hD : va_D A [] := hD
    generalize H1 = H at hP hS ⊢
    have hw_4 : (¬ r_3.toInt = 0) := hw
    have hw_5 := hw_4
    clear hw
    obtain ⟨hP9, hD9⟩ := sub2 hP hD (ws' := []) [] (by decide +kernel) rfl
    exact W.lret (v := r_3) hx hb hr (fun tZ ht hW => ⟨⟨r_3, (), rfl, (show ¬ r_3.toInt = 0 from by omega), by rw [ht]; exact hP9, va_K.moved hW.alike hK, hD9⟩, hS.F ht⟩) hS.2.2 dX12_common_17
  · skip
    have zh_1 : p1.toInt = 0 := zL_eq h_1 rfl rfl
    refine lv_lload_n hx hb dX12_common_6 rfl (lv_at hl 0 rfl) ?_
    refine lv_goto (tgt := 17) hx hb dX12_common_7 (by decide) ?_
    obtain ⟨hP9, hD9⟩ := sub2 hP hD (ws' := []) [] (by decide +kernel) rfl
    exact W.lret (v := p0) hx hb hr (fun tZ ht hW => ⟨⟨p0, (), rfl, (show ¬ p0.toInt = 0 from by omega), by rw [ht]; exact hP9, va_K.moved hW.alike hK, hD9⟩, hS.F ht⟩) hS.2.2 dX12_common_17
set_option maxHeartbeats 4000000 in
set_option maxRecDepth 100000 in
theorem c_X12_common_35 (l : Launch) (D : va_G) (k : Nat → ClassId) (p0 : Int64) (p1 : Int64) (sz : Nat) (hk : 3 * (p0.toInt.natAbs : Int) + 2 * (p1.toInt.natAbs : Int) ≤ 7972436 ∧ p1.toInt.natAbs ≤ p0.toInt.natAbs ∧ ¬ p0.toInt = 0) : Met l yX12_common (ww yX12_common cX12_common 4 (some .long)) ({ frames := 35, cells := 0, slots := 0, locals := 805 }) (Pre0 D k [] sz [.long p0, .long p1]) (va_Ql (fun (r : Int64) (_ : Unit) => (¬ r.toInt = 0)) (fun (_ : Unit) tZ => Bw D k (va_A [] sz) [] tZ) (va_A [] sz)) 0 0 (va_A [] sz) := by
  refine Met.ofW (cc := cX12_common) (maxL := 4) (ret := (some .long)) (by decide +kernel) rfl ?_
  intro p e s m args below meth c s₁ B hml hv
  obtain ⟨rfl, hsz, hP, hK, hD0, hN⟩ := hv
  have hx := B.exec
  have hb := B.bytes
  have hr := B.returns
  have hts : ∀ w ∈ TT, w.before _ s = true := fun w h => atoms_spec (ws := ww yX12_common cX12_common 4 (some .long)) B.pre w (List.mem_cons_of_mem _ h)
  have hown : s.vm.findClass RX12 = some m.cls := findClass_of_methodNamed B.named
  have hlocks := B.notSynchronized
  subst hsz
  have hD := hD0.self (sz := s.heap.size)
  generalize hAe : va_A [] s.heap.size = A at hD ⊢
  have hA : ∀ q : Nat, s.heap.size ≤ q → A q := fun q h => by rw [← hAe]; exact Or.inr h
  have hS : va_S A s.heap s.heap [] := va_S.rf
  have hl := lv_entry ([.long p0, .long p1]) (n := 4) (Nat.le_of_ble_eq_true rfl)
  rw [lg_entry_eq]
  generalize (lg_sl ([.long p0, .long p1]) ++ List.replicate (4 - (lg_sl ([.long p0, .long p1])).length) Slot.unset).toArray = ls at hl ⊢
  have hl : lv_has ls 4 [(0, .long p0), (2, .long p1)] := hl
  refine lv_lload_n hx hb dX12_common_0 rfl (lv_at hl 1 rfl) ?_
  refine lv_lconst (v := 0) hx hb dX12_common_1 (by decide) ?_
  refine W.lcmp hx hb dX12_common_2 ?_
  refine lv_if_ne (tgt := 10) hx hb dX12_common_3 (by decide) (fun h_1 => ?_) (fun h_1 => ?_)
  · skip
    have zh_1 : ¬ p1.toInt = 0 := zL_ne h_1 rfl rfl
    refine lv_lload_n hx hb dX12_common_10 rfl (lv_at hl 1 rfl) ?_
    refine lv_lload_n hx hb dX12_common_11 rfl (lv_at hl 0 rfl) ?_
    refine lv_lload_n hx hb dX12_common_12 rfl (lv_at hl 1 rfl) ?_
    refine lv_lrem hx hb dX12_common_13 (fun q9 => by have := congrArg (fun v : Int64 => v.toInt) q9; simp at this; omega) ?_
    refine lv_topl (fun x_2 ex_2 => ?_)
    have zx_2 := zl_rem ex_2 (by omega)
    obtain ⟨hPc, hDc, hFc⟩ := sub3 hP hD hS hA (ws' := []) [] (by decide +kernel) rfl
    refine va_calll (va_runS (As := [.long p1, .long x_2]) (rest := []) ⟨hx, hb, hml, hown, hts⟩ (c_X12_common_34 l D k p1 x_2 s.heap.size (show 3 * (p1.toInt.natAbs : Int) + 2 * (x_2.toInt.natAbs : Int) ≤ 5314957 ∧ x_2.toInt.natAbs ≤ p1.toInt.natAbs ∧ ¬ p1.toInt = 0 from by omega)) (va_cwS 2 hts (gS tw_8_192 tw_8_193 tw_1_13 tw_8_194) rfl rfl rfl hdS_X12_common ⟨Nat.le_of_ble_eq_true rfl, Nat.le_of_ble_eq_true rfl⟩) (cz_S hK hPc hDc hN [.long p1, .long x_2]) rfl rfl hl.1 rfl (lv_room (Nat.le_of_ble_eq_true rfl)) dX12_common_14 ⟨Nat.le_of_ble_eq_true rfl, Nat.le_of_ble_eq_true rfl⟩) hS (fun q _ h => hFc q h) hFc (fun r_3 uZ tZ H1 locs ht hvm hw hB hz1 hk1 hS => ?_)
    obtain ⟨hP1, hK1, hD1⟩ := hB
    rw [ht] at hP1
    obtain ⟨hP, hD⟩ := va_join (wr := []) (w1 := []) hP hD [] [] rfl rfl (by decide +kernel) (by decide +kernel) hk1 hFc hP1 hD1
    clear hK1 hP1 hD1 hPc hDc hFc
    clear hk1 hz1 ht hvm
    have hP : va_P D vwCl [] H1 := hP
    have hD : va_D A [] := hD
    generalize H1 = H at hP hS ⊢
    have hw_4 : (¬ r_3.toInt = 0) := hw
    have hw_5 := hw_4
    clear hw
    obtain ⟨hP9, hD9⟩ := sub2 hP hD (ws' := []) [] (by decide +kernel) rfl
    exact W.lret (v := r_3) hx hb hr (fun tZ ht hW => ⟨⟨r_3, (), rfl, (show ¬ r_3.toInt = 0 from by omega), by rw [ht]; exact hP9, va_K.moved hW.alike hK, hD9⟩, hS.F ht⟩) hS.2.2 dX12_common_17
  · skip
    have zh_1 : p1.toInt = 0 := zL_eq h_1 rfl rfl
    refine lv_lload_n hx hb dX12_common_6 rfl (lv_at hl 0 rfl) ?_
    refine lv_goto (tgt := 17) hx hb dX12_common_7 (by decide) ?_
    obtain ⟨hP9, hD9⟩ := sub2 hP hD (ws' := []) [] (by decide +kernel) rfl
    exact W.lret (v := p0) hx hb hr (fun tZ ht hW => ⟨⟨p0, (), rfl, (show ¬ p0.toInt = 0 from by omega), by rw [ht]; exact hP9, va_K.moved hW.alike hK, hD9⟩, hS.F ht⟩) hS.2.2 dX12_common_17
set_option maxHeartbeats 4000000 in
set_option maxRecDepth 100000 in
theorem c_X12_common_36 (l : Launch) (D : va_G) (k : Nat → ClassId) (p0 : Int64) (p1 : Int64) (sz : Nat) (hk : 3 * (p0.toInt.natAbs : Int) + 2 * (p1.toInt.natAbs : Int) ≤ 11958655 ∧ p1.toInt.natAbs ≤ p0.toInt.natAbs ∧ ¬ p0.toInt = 0) : Met l yX12_common (ww yX12_common cX12_common 4 (some .long)) ({ frames := 36, cells := 0, slots := 0, locals := 828 }) (Pre0 D k [] sz [.long p0, .long p1]) (va_Ql (fun (r : Int64) (_ : Unit) => (¬ r.toInt = 0)) (fun (_ : Unit) tZ => Bw D k (va_A [] sz) [] tZ) (va_A [] sz)) 0 0 (va_A [] sz) := by
  refine Met.ofW (cc := cX12_common) (maxL := 4) (ret := (some .long)) (by decide +kernel) rfl ?_
  intro p e s m args below meth c s₁ B hml hv
  obtain ⟨rfl, hsz, hP, hK, hD0, hN⟩ := hv
  have hx := B.exec
  have hb := B.bytes
  have hr := B.returns
  have hts : ∀ w ∈ TT, w.before _ s = true := fun w h => atoms_spec (ws := ww yX12_common cX12_common 4 (some .long)) B.pre w (List.mem_cons_of_mem _ h)
  have hown : s.vm.findClass RX12 = some m.cls := findClass_of_methodNamed B.named
  have hlocks := B.notSynchronized
  subst hsz
  have hD := hD0.self (sz := s.heap.size)
  generalize hAe : va_A [] s.heap.size = A at hD ⊢
  have hA : ∀ q : Nat, s.heap.size ≤ q → A q := fun q h => by rw [← hAe]; exact Or.inr h
  have hS : va_S A s.heap s.heap [] := va_S.rf
  have hl := lv_entry ([.long p0, .long p1]) (n := 4) (Nat.le_of_ble_eq_true rfl)
  rw [lg_entry_eq]
  generalize (lg_sl ([.long p0, .long p1]) ++ List.replicate (4 - (lg_sl ([.long p0, .long p1])).length) Slot.unset).toArray = ls at hl ⊢
  have hl : lv_has ls 4 [(0, .long p0), (2, .long p1)] := hl
  refine lv_lload_n hx hb dX12_common_0 rfl (lv_at hl 1 rfl) ?_
  refine lv_lconst (v := 0) hx hb dX12_common_1 (by decide) ?_
  refine W.lcmp hx hb dX12_common_2 ?_
  refine lv_if_ne (tgt := 10) hx hb dX12_common_3 (by decide) (fun h_1 => ?_) (fun h_1 => ?_)
  · skip
    have zh_1 : ¬ p1.toInt = 0 := zL_ne h_1 rfl rfl
    refine lv_lload_n hx hb dX12_common_10 rfl (lv_at hl 1 rfl) ?_
    refine lv_lload_n hx hb dX12_common_11 rfl (lv_at hl 0 rfl) ?_
    refine lv_lload_n hx hb dX12_common_12 rfl (lv_at hl 1 rfl) ?_
    refine lv_lrem hx hb dX12_common_13 (fun q9 => by have := congrArg (fun v : Int64 => v.toInt) q9; simp at this; omega) ?_
    refine lv_topl (fun x_2 ex_2 => ?_)
    have zx_2 := zl_rem ex_2 (by omega)
    obtain ⟨hPc, hDc, hFc⟩ := sub3 hP hD hS hA (ws' := []) [] (by decide +kernel) rfl
    refine va_calll (va_runS (As := [.long p1, .long x_2]) (rest := []) ⟨hx, hb, hml, hown, hts⟩ (c_X12_common_35 l D k p1 x_2 s.heap.size (show 3 * (p1.toInt.natAbs : Int) + 2 * (x_2.toInt.natAbs : Int) ≤ 7972436 ∧ x_2.toInt.natAbs ≤ p1.toInt.natAbs ∧ ¬ p1.toInt = 0 from by omega)) (va_cwS 2 hts (gS tw_8_192 tw_8_193 tw_1_13 tw_8_194) rfl rfl rfl hdS_X12_common ⟨Nat.le_of_ble_eq_true rfl, Nat.le_of_ble_eq_true rfl⟩) (cz_S hK hPc hDc hN [.long p1, .long x_2]) rfl rfl hl.1 rfl (lv_room (Nat.le_of_ble_eq_true rfl)) dX12_common_14 ⟨Nat.le_of_ble_eq_true rfl, Nat.le_of_ble_eq_true rfl⟩) hS (fun q _ h => hFc q h) hFc (fun r_3 uZ tZ H1 locs ht hvm hw hB hz1 hk1 hS => ?_)
    obtain ⟨hP1, hK1, hD1⟩ := hB
    rw [ht] at hP1
    obtain ⟨hP, hD⟩ := va_join (wr := []) (w1 := []) hP hD [] [] rfl rfl (by decide +kernel) (by decide +kernel) hk1 hFc hP1 hD1
    clear hK1 hP1 hD1 hPc hDc hFc
    clear hk1 hz1 ht hvm
    have hP : va_P D vwCl [] H1 := hP
    have hD : va_D A [] := hD
    generalize H1 = H at hP hS ⊢
    have hw_4 : (¬ r_3.toInt = 0) := hw
    have hw_5 := hw_4
    clear hw
    obtain ⟨hP9, hD9⟩ := sub2 hP hD (ws' := []) [] (by decide +kernel) rfl
    exact W.lret (v := r_3) hx hb hr (fun tZ ht hW => ⟨⟨r_3, (), rfl, (show ¬ r_3.toInt = 0 from by omega), by rw [ht]; exact hP9, va_K.moved hW.alike hK, hD9⟩, hS.F ht⟩) hS.2.2 dX12_common_17
  · skip
    have zh_1 : p1.toInt = 0 := zL_eq h_1 rfl rfl
    refine lv_lload_n hx hb dX12_common_6 rfl (lv_at hl 0 rfl) ?_
    refine lv_goto (tgt := 17) hx hb dX12_common_7 (by decide) ?_
    obtain ⟨hP9, hD9⟩ := sub2 hP hD (ws' := []) [] (by decide +kernel) rfl
    exact W.lret (v := p0) hx hb hr (fun tZ ht hW => ⟨⟨p0, (), rfl, (show ¬ p0.toInt = 0 from by omega), by rw [ht]; exact hP9, va_K.moved hW.alike hK, hD9⟩, hS.F ht⟩) hS.2.2 dX12_common_17
set_option maxHeartbeats 4000000 in
set_option maxRecDepth 100000 in
theorem c_X12_common_37 (l : Launch) (D : va_G) (k : Nat → ClassId) (p0 : Int64) (p1 : Int64) (sz : Nat) (hk : 3 * (p0.toInt.natAbs : Int) + 2 * (p1.toInt.natAbs : Int) ≤ 17937983 ∧ p1.toInt.natAbs ≤ p0.toInt.natAbs ∧ ¬ p0.toInt = 0) : Met l yX12_common (ww yX12_common cX12_common 4 (some .long)) ({ frames := 37, cells := 0, slots := 0, locals := 851 }) (Pre0 D k [] sz [.long p0, .long p1]) (va_Ql (fun (r : Int64) (_ : Unit) => (¬ r.toInt = 0)) (fun (_ : Unit) tZ => Bw D k (va_A [] sz) [] tZ) (va_A [] sz)) 0 0 (va_A [] sz) := by
  refine Met.ofW (cc := cX12_common) (maxL := 4) (ret := (some .long)) (by decide +kernel) rfl ?_
  intro p e s m args below meth c s₁ B hml hv
  obtain ⟨rfl, hsz, hP, hK, hD0, hN⟩ := hv
  have hx := B.exec
  have hb := B.bytes
  have hr := B.returns
  have hts : ∀ w ∈ TT, w.before _ s = true := fun w h => atoms_spec (ws := ww yX12_common cX12_common 4 (some .long)) B.pre w (List.mem_cons_of_mem _ h)
  have hown : s.vm.findClass RX12 = some m.cls := findClass_of_methodNamed B.named
  have hlocks := B.notSynchronized
  subst hsz
  have hD := hD0.self (sz := s.heap.size)
  generalize hAe : va_A [] s.heap.size = A at hD ⊢
  have hA : ∀ q : Nat, s.heap.size ≤ q → A q := fun q h => by rw [← hAe]; exact Or.inr h
  have hS : va_S A s.heap s.heap [] := va_S.rf
  have hl := lv_entry ([.long p0, .long p1]) (n := 4) (Nat.le_of_ble_eq_true rfl)
  rw [lg_entry_eq]
  generalize (lg_sl ([.long p0, .long p1]) ++ List.replicate (4 - (lg_sl ([.long p0, .long p1])).length) Slot.unset).toArray = ls at hl ⊢
  have hl : lv_has ls 4 [(0, .long p0), (2, .long p1)] := hl
  refine lv_lload_n hx hb dX12_common_0 rfl (lv_at hl 1 rfl) ?_
  refine lv_lconst (v := 0) hx hb dX12_common_1 (by decide) ?_
  refine W.lcmp hx hb dX12_common_2 ?_
  refine lv_if_ne (tgt := 10) hx hb dX12_common_3 (by decide) (fun h_1 => ?_) (fun h_1 => ?_)
  · skip
    have zh_1 : ¬ p1.toInt = 0 := zL_ne h_1 rfl rfl
    refine lv_lload_n hx hb dX12_common_10 rfl (lv_at hl 1 rfl) ?_
    refine lv_lload_n hx hb dX12_common_11 rfl (lv_at hl 0 rfl) ?_
    refine lv_lload_n hx hb dX12_common_12 rfl (lv_at hl 1 rfl) ?_
    refine lv_lrem hx hb dX12_common_13 (fun q9 => by have := congrArg (fun v : Int64 => v.toInt) q9; simp at this; omega) ?_
    refine lv_topl (fun x_2 ex_2 => ?_)
    have zx_2 := zl_rem ex_2 (by omega)
    obtain ⟨hPc, hDc, hFc⟩ := sub3 hP hD hS hA (ws' := []) [] (by decide +kernel) rfl
    refine va_calll (va_runS (As := [.long p1, .long x_2]) (rest := []) ⟨hx, hb, hml, hown, hts⟩ (c_X12_common_36 l D k p1 x_2 s.heap.size (show 3 * (p1.toInt.natAbs : Int) + 2 * (x_2.toInt.natAbs : Int) ≤ 11958655 ∧ x_2.toInt.natAbs ≤ p1.toInt.natAbs ∧ ¬ p1.toInt = 0 from by omega)) (va_cwS 2 hts (gS tw_8_192 tw_8_193 tw_1_13 tw_8_194) rfl rfl rfl hdS_X12_common ⟨Nat.le_of_ble_eq_true rfl, Nat.le_of_ble_eq_true rfl⟩) (cz_S hK hPc hDc hN [.long p1, .long x_2]) rfl rfl hl.1 rfl (lv_room (Nat.le_of_ble_eq_true rfl)) dX12_common_14 ⟨Nat.le_of_ble_eq_true rfl, Nat.le_of_ble_eq_true rfl⟩) hS (fun q _ h => hFc q h) hFc (fun r_3 uZ tZ H1 locs ht hvm hw hB hz1 hk1 hS => ?_)
    obtain ⟨hP1, hK1, hD1⟩ := hB
    rw [ht] at hP1
    obtain ⟨hP, hD⟩ := va_join (wr := []) (w1 := []) hP hD [] [] rfl rfl (by decide +kernel) (by decide +kernel) hk1 hFc hP1 hD1
    clear hK1 hP1 hD1 hPc hDc hFc
    clear hk1 hz1 ht hvm
    have hP : va_P D vwCl [] H1 := hP
    have hD : va_D A [] := hD
    generalize H1 = H at hP hS ⊢
    have hw_4 : (¬ r_3.toInt = 0) := hw
    have hw_5 := hw_4
    clear hw
    obtain ⟨hP9, hD9⟩ := sub2 hP hD (ws' := []) [] (by decide +kernel) rfl
    exact W.lret (v := r_3) hx hb hr (fun tZ ht hW => ⟨⟨r_3, (), rfl, (show ¬ r_3.toInt = 0 from by omega), by rw [ht]; exact hP9, va_K.moved hW.alike hK, hD9⟩, hS.F ht⟩) hS.2.2 dX12_common_17
  · skip
    have zh_1 : p1.toInt = 0 := zL_eq h_1 rfl rfl
    refine lv_lload_n hx hb dX12_common_6 rfl (lv_at hl 0 rfl) ?_
    refine lv_goto (tgt := 17) hx hb dX12_common_7 (by decide) ?_
    obtain ⟨hP9, hD9⟩ := sub2 hP hD (ws' := []) [] (by decide +kernel) rfl
    exact W.lret (v := p0) hx hb hr (fun tZ ht hW => ⟨⟨p0, (), rfl, (show ¬ p0.toInt = 0 from by omega), by rw [ht]; exact hP9, va_K.moved hW.alike hK, hD9⟩, hS.F ht⟩) hS.2.2 dX12_common_17
set_option maxHeartbeats 4000000 in
set_option maxRecDepth 100000 in
theorem c_X12_common_38 (l : Launch) (D : va_G) (k : Nat → ClassId) (p0 : Int64) (p1 : Int64) (sz : Nat) (hk : 3 * (p0.toInt.natAbs : Int) + 2 * (p1.toInt.natAbs : Int) ≤ 26906975 ∧ p1.toInt.natAbs ≤ p0.toInt.natAbs ∧ ¬ p0.toInt = 0) : Met l yX12_common (ww yX12_common cX12_common 4 (some .long)) ({ frames := 38, cells := 0, slots := 0, locals := 874 }) (Pre0 D k [] sz [.long p0, .long p1]) (va_Ql (fun (r : Int64) (_ : Unit) => (¬ r.toInt = 0)) (fun (_ : Unit) tZ => Bw D k (va_A [] sz) [] tZ) (va_A [] sz)) 0 0 (va_A [] sz) := by
  refine Met.ofW (cc := cX12_common) (maxL := 4) (ret := (some .long)) (by decide +kernel) rfl ?_
  intro p e s m args below meth c s₁ B hml hv
  obtain ⟨rfl, hsz, hP, hK, hD0, hN⟩ := hv
  have hx := B.exec
  have hb := B.bytes
  have hr := B.returns
  have hts : ∀ w ∈ TT, w.before _ s = true := fun w h => atoms_spec (ws := ww yX12_common cX12_common 4 (some .long)) B.pre w (List.mem_cons_of_mem _ h)
  have hown : s.vm.findClass RX12 = some m.cls := findClass_of_methodNamed B.named
  have hlocks := B.notSynchronized
  subst hsz
  have hD := hD0.self (sz := s.heap.size)
  generalize hAe : va_A [] s.heap.size = A at hD ⊢
  have hA : ∀ q : Nat, s.heap.size ≤ q → A q := fun q h => by rw [← hAe]; exact Or.inr h
  have hS : va_S A s.heap s.heap [] := va_S.rf
  have hl := lv_entry ([.long p0, .long p1]) (n := 4) (Nat.le_of_ble_eq_true rfl)
  rw [lg_entry_eq]
  generalize (lg_sl ([.long p0, .long p1]) ++ List.replicate (4 - (lg_sl ([.long p0, .long p1])).length) Slot.unset).toArray = ls at hl ⊢
  have hl : lv_has ls 4 [(0, .long p0), (2, .long p1)] := hl
  refine lv_lload_n hx hb dX12_common_0 rfl (lv_at hl 1 rfl) ?_
  refine lv_lconst (v := 0) hx hb dX12_common_1 (by decide) ?_
  refine W.lcmp hx hb dX12_common_2 ?_
  refine lv_if_ne (tgt := 10) hx hb dX12_common_3 (by decide) (fun h_1 => ?_) (fun h_1 => ?_)
  · skip
    have zh_1 : ¬ p1.toInt = 0 := zL_ne h_1 rfl rfl
    refine lv_lload_n hx hb dX12_common_10 rfl (lv_at hl 1 rfl) ?_
    refine lv_lload_n hx hb dX12_common_11 rfl (lv_at hl 0 rfl) ?_
    refine lv_lload_n hx hb dX12_common_12 rfl (lv_at hl 1 rfl) ?_
    refine lv_lrem hx hb dX12_common_13 (fun q9 => by have := congrArg (fun v : Int64 => v.toInt) q9; simp at this; omega) ?_
    refine lv_topl (fun x_2 ex_2 => ?_)
    have zx_2 := zl_rem ex_2 (by omega)
    obtain ⟨hPc, hDc, hFc⟩ := sub3 hP hD hS hA (ws' := []) [] (by decide +kernel) rfl
    refine va_calll (va_runS (As := [.long p1, .long x_2]) (rest := []) ⟨hx, hb, hml, hown, hts⟩ (c_X12_common_37 l D k p1 x_2 s.heap.size (show 3 * (p1.toInt.natAbs : Int) + 2 * (x_2.toInt.natAbs : Int) ≤ 17937983 ∧ x_2.toInt.natAbs ≤ p1.toInt.natAbs ∧ ¬ p1.toInt = 0 from by omega)) (va_cwS 2 hts (gS tw_8_192 tw_8_193 tw_1_13 tw_8_194) rfl rfl rfl hdS_X12_common ⟨Nat.le_of_ble_eq_true rfl, Nat.le_of_ble_eq_true rfl⟩) (cz_S hK hPc hDc hN [.long p1, .long x_2]) rfl rfl hl.1 rfl (lv_room (Nat.le_of_ble_eq_true rfl)) dX12_common_14 ⟨Nat.le_of_ble_eq_true rfl, Nat.le_of_ble_eq_true rfl⟩) hS (fun q _ h => hFc q h) hFc (fun r_3 uZ tZ H1 locs ht hvm hw hB hz1 hk1 hS => ?_)
    obtain ⟨hP1, hK1, hD1⟩ := hB
    rw [ht] at hP1
    obtain ⟨hP, hD⟩ := va_join (wr := []) (w1 := []) hP hD [] [] rfl rfl (by decide +kernel) (by decide +kernel) hk1 hFc hP1 hD1
    clear hK1 hP1 hD1 hPc hDc hFc
    clear hk1 hz1 ht hvm
    have hP : va_P D vwCl [] H1 := hP
    have hD : va_D A [] := hD
    generalize H1 = H at hP hS ⊢
    have hw_4 : (¬ r_3.toInt = 0) := hw
    have hw_5 := hw_4
    clear hw
    obtain ⟨hP9, hD9⟩ := sub2 hP hD (ws' := []) [] (by decide +kernel) rfl
    exact W.lret (v := r_3) hx hb hr (fun tZ ht hW => ⟨⟨r_3, (), rfl, (show ¬ r_3.toInt = 0 from by omega), by rw [ht]; exact hP9, va_K.moved hW.alike hK, hD9⟩, hS.F ht⟩) hS.2.2 dX12_common_17
  · skip
    have zh_1 : p1.toInt = 0 := zL_eq h_1 rfl rfl
    refine lv_lload_n hx hb dX12_common_6 rfl (lv_at hl 0 rfl) ?_
    refine lv_goto (tgt := 17) hx hb dX12_common_7 (by decide) ?_
    obtain ⟨hP9, hD9⟩ := sub2 hP hD (ws' := []) [] (by decide +kernel) rfl
    exact W.lret (v := p0) hx hb hr (fun tZ ht hW => ⟨⟨p0, (), rfl, (show ¬ p0.toInt = 0 from by omega), by rw [ht]; exact hP9, va_K.moved hW.alike hK, hD9⟩, hS.F ht⟩) hS.2.2 dX12_common_17
set_option maxHeartbeats 4000000 in
set_option maxRecDepth 100000 in
theorem c_X12_common_39 (l : Launch) (D : va_G) (k : Nat → ClassId) (p0 : Int64) (p1 : Int64) (sz : Nat) (hk : 3 * (p0.toInt.natAbs : Int) + 2 * (p1.toInt.natAbs : Int) ≤ 40360463 ∧ p1.toInt.natAbs ≤ p0.toInt.natAbs ∧ ¬ p0.toInt = 0) : Met l yX12_common (ww yX12_common cX12_common 4 (some .long)) ({ frames := 39, cells := 0, slots := 0, locals := 897 }) (Pre0 D k [] sz [.long p0, .long p1]) (va_Ql (fun (r : Int64) (_ : Unit) => (¬ r.toInt = 0)) (fun (_ : Unit) tZ => Bw D k (va_A [] sz) [] tZ) (va_A [] sz)) 0 0 (va_A [] sz) := by
  refine Met.ofW (cc := cX12_common) (maxL := 4) (ret := (some .long)) (by decide +kernel) rfl ?_
  intro p e s m args below meth c s₁ B hml hv
  obtain ⟨rfl, hsz, hP, hK, hD0, hN⟩ := hv
  have hx := B.exec
  have hb := B.bytes
  have hr := B.returns
  have hts : ∀ w ∈ TT, w.before _ s = true := fun w h => atoms_spec (ws := ww yX12_common cX12_common 4 (some .long)) B.pre w (List.mem_cons_of_mem _ h)
  have hown : s.vm.findClass RX12 = some m.cls := findClass_of_methodNamed B.named
  have hlocks := B.notSynchronized
  subst hsz
  have hD := hD0.self (sz := s.heap.size)
  generalize hAe : va_A [] s.heap.size = A at hD ⊢
  have hA : ∀ q : Nat, s.heap.size ≤ q → A q := fun q h => by rw [← hAe]; exact Or.inr h
  have hS : va_S A s.heap s.heap [] := va_S.rf
  have hl := lv_entry ([.long p0, .long p1]) (n := 4) (Nat.le_of_ble_eq_true rfl)
  rw [lg_entry_eq]
  generalize (lg_sl ([.long p0, .long p1]) ++ List.replicate (4 - (lg_sl ([.long p0, .long p1])).length) Slot.unset).toArray = ls at hl ⊢
  have hl : lv_has ls 4 [(0, .long p0), (2, .long p1)] := hl
  refine lv_lload_n hx hb dX12_common_0 rfl (lv_at hl 1 rfl) ?_
  refine lv_lconst (v := 0) hx hb dX12_common_1 (by decide) ?_
  refine W.lcmp hx hb dX12_common_2 ?_
  refine lv_if_ne (tgt := 10) hx hb dX12_common_3 (by decide) (fun h_1 => ?_) (fun h_1 => ?_)
  · skip
    have zh_1 : ¬ p1.toInt = 0 := zL_ne h_1 rfl rfl
    refine lv_lload_n hx hb dX12_common_10 rfl (lv_at hl 1 rfl) ?_
    refine lv_lload_n hx hb dX12_common_11 rfl (lv_at hl 0 rfl) ?_
    refine lv_lload_n hx hb dX12_common_12 rfl (lv_at hl 1 rfl) ?_
    refine lv_lrem hx hb dX12_common_13 (fun q9 => by have := congrArg (fun v : Int64 => v.toInt) q9; simp at this; omega) ?_
    refine lv_topl (fun x_2 ex_2 => ?_)
    have zx_2 := zl_rem ex_2 (by omega)
    obtain ⟨hPc, hDc, hFc⟩ := sub3 hP hD hS hA (ws' := []) [] (by decide +kernel) rfl
    refine va_calll (va_runS (As := [.long p1, .long x_2]) (rest := []) ⟨hx, hb, hml, hown, hts⟩ (c_X12_common_38 l D k p1 x_2 s.heap.size (show 3 * (p1.toInt.natAbs : Int) + 2 * (x_2.toInt.natAbs : Int) ≤ 26906975 ∧ x_2.toInt.natAbs ≤ p1.toInt.natAbs ∧ ¬ p1.toInt = 0 from by omega)) (va_cwS 2 hts (gS tw_8_192 tw_8_193 tw_1_13 tw_8_194) rfl rfl rfl hdS_X12_common ⟨Nat.le_of_ble_eq_true rfl, Nat.le_of_ble_eq_true rfl⟩) (cz_S hK hPc hDc hN [.long p1, .long x_2]) rfl rfl hl.1 rfl (lv_room (Nat.le_of_ble_eq_true rfl)) dX12_common_14 ⟨Nat.le_of_ble_eq_true rfl, Nat.le_of_ble_eq_true rfl⟩) hS (fun q _ h => hFc q h) hFc (fun r_3 uZ tZ H1 locs ht hvm hw hB hz1 hk1 hS => ?_)
    obtain ⟨hP1, hK1, hD1⟩ := hB
    rw [ht] at hP1
    obtain ⟨hP, hD⟩ := va_join (wr := []) (w1 := []) hP hD [] [] rfl rfl (by decide +kernel) (by decide +kernel) hk1 hFc hP1 hD1
    clear hK1 hP1 hD1 hPc hDc hFc
    clear hk1 hz1 ht hvm
    have hP : va_P D vwCl [] H1 := hP
    have hD : va_D A [] := hD
    generalize H1 = H at hP hS ⊢
    have hw_4 : (¬ r_3.toInt = 0) := hw
    have hw_5 := hw_4
    clear hw
    obtain ⟨hP9, hD9⟩ := sub2 hP hD (ws' := []) [] (by decide +kernel) rfl
    exact W.lret (v := r_3) hx hb hr (fun tZ ht hW => ⟨⟨r_3, (), rfl, (show ¬ r_3.toInt = 0 from by omega), by rw [ht]; exact hP9, va_K.moved hW.alike hK, hD9⟩, hS.F ht⟩) hS.2.2 dX12_common_17
  · skip
    have zh_1 : p1.toInt = 0 := zL_eq h_1 rfl rfl
    refine lv_lload_n hx hb dX12_common_6 rfl (lv_at hl 0 rfl) ?_
    refine lv_goto (tgt := 17) hx hb dX12_common_7 (by decide) ?_
    obtain ⟨hP9, hD9⟩ := sub2 hP hD (ws' := []) [] (by decide +kernel) rfl
    exact W.lret (v := p0) hx hb hr (fun tZ ht hW => ⟨⟨p0, (), rfl, (show ¬ p0.toInt = 0 from by omega), by rw [ht]; exact hP9, va_K.moved hW.alike hK, hD9⟩, hS.F ht⟩) hS.2.2 dX12_common_17
set_option maxHeartbeats 4000000 in
set_option maxRecDepth 100000 in
theorem c_X12_common_40 (l : Launch) (D : va_G) (k : Nat → ClassId) (p0 : Int64) (p1 : Int64) (sz : Nat) (hk : 3 * (p0.toInt.natAbs : Int) + 2 * (p1.toInt.natAbs : Int) ≤ 60540695 ∧ p1.toInt.natAbs ≤ p0.toInt.natAbs ∧ ¬ p0.toInt = 0) : Met l yX12_common (ww yX12_common cX12_common 4 (some .long)) ({ frames := 40, cells := 0, slots := 0, locals := 920 }) (Pre0 D k [] sz [.long p0, .long p1]) (va_Ql (fun (r : Int64) (_ : Unit) => (¬ r.toInt = 0)) (fun (_ : Unit) tZ => Bw D k (va_A [] sz) [] tZ) (va_A [] sz)) 0 0 (va_A [] sz) := by
  refine Met.ofW (cc := cX12_common) (maxL := 4) (ret := (some .long)) (by decide +kernel) rfl ?_
  intro p e s m args below meth c s₁ B hml hv
  obtain ⟨rfl, hsz, hP, hK, hD0, hN⟩ := hv
  have hx := B.exec
  have hb := B.bytes
  have hr := B.returns
  have hts : ∀ w ∈ TT, w.before _ s = true := fun w h => atoms_spec (ws := ww yX12_common cX12_common 4 (some .long)) B.pre w (List.mem_cons_of_mem _ h)
  have hown : s.vm.findClass RX12 = some m.cls := findClass_of_methodNamed B.named
  have hlocks := B.notSynchronized
  subst hsz
  have hD := hD0.self (sz := s.heap.size)
  generalize hAe : va_A [] s.heap.size = A at hD ⊢
  have hA : ∀ q : Nat, s.heap.size ≤ q → A q := fun q h => by rw [← hAe]; exact Or.inr h
  have hS : va_S A s.heap s.heap [] := va_S.rf
  have hl := lv_entry ([.long p0, .long p1]) (n := 4) (Nat.le_of_ble_eq_true rfl)
  rw [lg_entry_eq]
  generalize (lg_sl ([.long p0, .long p1]) ++ List.replicate (4 - (lg_sl ([.long p0, .long p1])).length) Slot.unset).toArray = ls at hl ⊢
  have hl : lv_has ls 4 [(0, .long p0), (2, .long p1)] := hl
  refine lv_lload_n hx hb dX12_common_0 rfl (lv_at hl 1 rfl) ?_
  refine lv_lconst (v := 0) hx hb dX12_common_1 (by decide) ?_
  refine W.lcmp hx hb dX12_common_2 ?_
  refine lv_if_ne (tgt := 10) hx hb dX12_common_3 (by decide) (fun h_1 => ?_) (fun h_1 => ?_)
  · skip
    have zh_1 : ¬ p1.toInt = 0 := zL_ne h_1 rfl rfl
    refine lv_lload_n hx hb dX12_common_10 rfl (lv_at hl 1 rfl) ?_
    refine lv_lload_n hx hb dX12_common_11 rfl (lv_at hl 0 rfl) ?_
    refine lv_lload_n hx hb dX12_common_12 rfl (lv_at hl 1 rfl) ?_
    refine lv_lrem hx hb dX12_common_13 (fun q9 => by have := congrArg (fun v : Int64 => v.toInt) q9; simp at this; omega) ?_
    refine lv_topl (fun x_2 ex_2 => ?_)
    have zx_2 := zl_rem ex_2 (by omega)
    obtain ⟨hPc, hDc, hFc⟩ := sub3 hP hD hS hA (ws' := []) [] (by decide +kernel) rfl
    refine va_calll (va_runS (As := [.long p1, .long x_2]) (rest := []) ⟨hx, hb, hml, hown, hts⟩ (c_X12_common_39 l D k p1 x_2 s.heap.size (show 3 * (p1.toInt.natAbs : Int) + 2 * (x_2.toInt.natAbs : Int) ≤ 40360463 ∧ x_2.toInt.natAbs ≤ p1.toInt.natAbs ∧ ¬ p1.toInt = 0 from by omega)) (va_cwS 2 hts (gS tw_8_192 tw_8_193 tw_1_13 tw_8_194) rfl rfl rfl hdS_X12_common ⟨Nat.le_of_ble_eq_true rfl, Nat.le_of_ble_eq_true rfl⟩) (cz_S hK hPc hDc hN [.long p1, .long x_2]) rfl rfl hl.1 rfl (lv_room (Nat.le_of_ble_eq_true rfl)) dX12_common_14 ⟨Nat.le_of_ble_eq_true rfl, Nat.le_of_ble_eq_true rfl⟩) hS (fun q _ h => hFc q h) hFc (fun r_3 uZ tZ H1 locs ht hvm hw hB hz1 hk1 hS => ?_)
    obtain ⟨hP1, hK1, hD1⟩ := hB
    rw [ht] at hP1
    obtain ⟨hP, hD⟩ := va_join (wr := []) (w1 := []) hP hD [] [] rfl rfl (by decide +kernel) (by decide +kernel) hk1 hFc hP1 hD1
    clear hK1 hP1 hD1 hPc hDc hFc
    clear hk1 hz1 ht hvm
    have hP : va_P D vwCl [] H1 := hP
    have hD : va_D A [] := hD
    generalize H1 = H at hP hS ⊢
    have hw_4 : (¬ r_3.toInt = 0) := hw
    have hw_5 := hw_4
    clear hw
    obtain ⟨hP9, hD9⟩ := sub2 hP hD (ws' := []) [] (by decide +kernel) rfl
    exact W.lret (v := r_3) hx hb hr (fun tZ ht hW => ⟨⟨r_3, (), rfl, (show ¬ r_3.toInt = 0 from by omega), by rw [ht]; exact hP9, va_K.moved hW.alike hK, hD9⟩, hS.F ht⟩) hS.2.2 dX12_common_17
  · skip
    have zh_1 : p1.toInt = 0 := zL_eq h_1 rfl rfl
    refine lv_lload_n hx hb dX12_common_6 rfl (lv_at hl 0 rfl) ?_
    refine lv_goto (tgt := 17) hx hb dX12_common_7 (by decide) ?_
    obtain ⟨hP9, hD9⟩ := sub2 hP hD (ws' := []) [] (by decide +kernel) rfl
    exact W.lret (v := p0) hx hb hr (fun tZ ht hW => ⟨⟨p0, (), rfl, (show ¬ p0.toInt = 0 from by omega), by rw [ht]; exact hP9, va_K.moved hW.alike hK, hD9⟩, hS.F ht⟩) hS.2.2 dX12_common_17
set_option maxHeartbeats 4000000 in
set_option maxRecDepth 100000 in
theorem c_X12_common_41 (l : Launch) (D : va_G) (k : Nat → ClassId) (p0 : Int64) (p1 : Int64) (sz : Nat) (hk : 3 * (p0.toInt.natAbs : Int) + 2 * (p1.toInt.natAbs : Int) ≤ 90811043 ∧ p1.toInt.natAbs ≤ p0.toInt.natAbs ∧ ¬ p0.toInt = 0) : Met l yX12_common (ww yX12_common cX12_common 4 (some .long)) ({ frames := 41, cells := 0, slots := 0, locals := 943 }) (Pre0 D k [] sz [.long p0, .long p1]) (va_Ql (fun (r : Int64) (_ : Unit) => (¬ r.toInt = 0)) (fun (_ : Unit) tZ => Bw D k (va_A [] sz) [] tZ) (va_A [] sz)) 0 0 (va_A [] sz) := by
  refine Met.ofW (cc := cX12_common) (maxL := 4) (ret := (some .long)) (by decide +kernel) rfl ?_
  intro p e s m args below meth c s₁ B hml hv
  obtain ⟨rfl, hsz, hP, hK, hD0, hN⟩ := hv
  have hx := B.exec
  have hb := B.bytes
  have hr := B.returns
  have hts : ∀ w ∈ TT, w.before _ s = true := fun w h => atoms_spec (ws := ww yX12_common cX12_common 4 (some .long)) B.pre w (List.mem_cons_of_mem _ h)
  have hown : s.vm.findClass RX12 = some m.cls := findClass_of_methodNamed B.named
  have hlocks := B.notSynchronized
  subst hsz
  have hD := hD0.self (sz := s.heap.size)
  generalize hAe : va_A [] s.heap.size = A at hD ⊢
  have hA : ∀ q : Nat, s.heap.size ≤ q → A q := fun q h => by rw [← hAe]; exact Or.inr h
  have hS : va_S A s.heap s.heap [] := va_S.rf
  have hl := lv_entry ([.long p0, .long p1]) (n := 4) (Nat.le_of_ble_eq_true rfl)
  rw [lg_entry_eq]
  generalize (lg_sl ([.long p0, .long p1]) ++ List.replicate (4 - (lg_sl ([.long p0, .long p1])).length) Slot.unset).toArray = ls at hl ⊢
  have hl : lv_has ls 4 [(0, .long p0), (2, .long p1)] := hl
  refine lv_lload_n hx hb dX12_common_0 rfl (lv_at hl 1 rfl) ?_
  refine lv_lconst (v := 0) hx hb dX12_common_1 (by decide) ?_
  refine W.lcmp hx hb dX12_common_2 ?_
  refine lv_if_ne (tgt := 10) hx hb dX12_common_3 (by decide) (fun h_1 => ?_) (fun h_1 => ?_)
  · skip
    have zh_1 : ¬ p1.toInt = 0 := zL_ne h_1 rfl rfl
    refine lv_lload_n hx hb dX12_common_10 rfl (lv_at hl 1 rfl) ?_
    refine lv_lload_n hx hb dX12_common_11 rfl (lv_at hl 0 rfl) ?_
    refine lv_lload_n hx hb dX12_common_12 rfl (lv_at hl 1 rfl) ?_
    refine lv_lrem hx hb dX12_common_13 (fun q9 => by have := congrArg (fun v : Int64 => v.toInt) q9; simp at this; omega) ?_
    refine lv_topl (fun x_2 ex_2 => ?_)
    have zx_2 := zl_rem ex_2 (by omega)
    obtain ⟨hPc, hDc, hFc⟩ := sub3 hP hD hS hA (ws' := []) [] (by decide +kernel) rfl
    refine va_calll (va_runS (As := [.long p1, .long x_2]) (rest := []) ⟨hx, hb, hml, hown, hts⟩ (c_X12_common_40 l D k p1 x_2 s.heap.size (show 3 * (p1.toInt.natAbs : Int) + 2 * (x_2.toInt.natAbs : Int) ≤ 60540695 ∧ x_2.toInt.natAbs ≤ p1.toInt.natAbs ∧ ¬ p1.toInt = 0 from by omega)) (va_cwS 2 hts (gS tw_8_192 tw_8_193 tw_1_13 tw_8_194) rfl rfl rfl hdS_X12_common ⟨Nat.le_of_ble_eq_true rfl, Nat.le_of_ble_eq_true rfl⟩) (cz_S hK hPc hDc hN [.long p1, .long x_2]) rfl rfl hl.1 rfl (lv_room (Nat.le_of_ble_eq_true rfl)) dX12_common_14 ⟨Nat.le_of_ble_eq_true rfl, Nat.le_of_ble_eq_true rfl⟩) hS (fun q _ h => hFc q h) hFc (fun r_3 uZ tZ H1 locs ht hvm hw hB hz1 hk1 hS => ?_)
    obtain ⟨hP1, hK1, hD1⟩ := hB
    rw [ht] at hP1
    obtain ⟨hP, hD⟩ := va_join (wr := []) (w1 := []) hP hD [] [] rfl rfl (by decide +kernel) (by decide +kernel) hk1 hFc hP1 hD1
    clear hK1 hP1 hD1 hPc hDc hFc
    clear hk1 hz1 ht hvm
    have hP : va_P D vwCl [] H1 := hP
    have hD : va_D A [] := hD
    generalize H1 = H at hP hS ⊢
    have hw_4 : (¬ r_3.toInt = 0) := hw
    have hw_5 := hw_4
    clear hw
    obtain ⟨hP9, hD9⟩ := sub2 hP hD (ws' := []) [] (by decide +kernel) rfl
    exact W.lret (v := r_3) hx hb hr (fun tZ ht hW => ⟨⟨r_3, (), rfl, (show ¬ r_3.toInt = 0 from by omega), by rw [ht]; exact hP9, va_K.moved hW.alike hK, hD9⟩, hS.F ht⟩) hS.2.2 dX12_common_17
  · skip
    have zh_1 : p1.toInt = 0 := zL_eq h_1 rfl rfl
    refine lv_lload_n hx hb dX12_common_6 rfl (lv_at hl 0 rfl) ?_
    refine lv_goto (tgt := 17) hx hb dX12_common_7 (by decide) ?_
    obtain ⟨hP9, hD9⟩ := sub2 hP hD (ws' := []) [] (by decide +kernel) rfl
    exact W.lret (v := p0) hx hb hr (fun tZ ht hW => ⟨⟨p0, (), rfl, (show ¬ p0.toInt = 0 from by omega), by rw [ht]; exact hP9, va_K.moved hW.alike hK, hD9⟩, hS.F ht⟩) hS.2.2 dX12_common_17
set_option maxHeartbeats 4000000 in
set_option maxRecDepth 100000 in
theorem c_X12_common_42 (l : Launch) (D : va_G) (k : Nat → ClassId) (p0 : Int64) (p1 : Int64) (sz : Nat) (hk : 3 * (p0.toInt.natAbs : Int) + 2 * (p1.toInt.natAbs : Int) ≤ 136216565 ∧ p1.toInt.natAbs ≤ p0.toInt.natAbs ∧ ¬ p0.toInt = 0) : Met l yX12_common (ww yX12_common cX12_common 4 (some .long)) ({ frames := 42, cells := 0, slots := 0, locals := 966 }) (Pre0 D k [] sz [.long p0, .long p1]) (va_Ql (fun (r : Int64) (_ : Unit) => (¬ r.toInt = 0)) (fun (_ : Unit) tZ => Bw D k (va_A [] sz) [] tZ) (va_A [] sz)) 0 0 (va_A [] sz) := by
  refine Met.ofW (cc := cX12_common) (maxL := 4) (ret := (some .long)) (by decide +kernel) rfl ?_
  intro p e s m args below meth c s₁ B hml hv
  obtain ⟨rfl, hsz, hP, hK, hD0, hN⟩ := hv
  have hx := B.exec
  have hb := B.bytes
  have hr := B.returns
  have hts : ∀ w ∈ TT, w.before _ s = true := fun w h => atoms_spec (ws := ww yX12_common cX12_common 4 (some .long)) B.pre w (List.mem_cons_of_mem _ h)
  have hown : s.vm.findClass RX12 = some m.cls := findClass_of_methodNamed B.named
  have hlocks := B.notSynchronized
  subst hsz
  have hD := hD0.self (sz := s.heap.size)
  generalize hAe : va_A [] s.heap.size = A at hD ⊢
  have hA : ∀ q : Nat, s.heap.size ≤ q → A q := fun q h => by rw [← hAe]; exact Or.inr h
  have hS : va_S A s.heap s.heap [] := va_S.rf
  have hl := lv_entry ([.long p0, .long p1]) (n := 4) (Nat.le_of_ble_eq_true rfl)
  rw [lg_entry_eq]
  generalize (lg_sl ([.long p0, .long p1]) ++ List.replicate (4 - (lg_sl ([.long p0, .long p1])).length) Slot.unset).toArray = ls at hl ⊢
  have hl : lv_has ls 4 [(0, .long p0), (2, .long p1)] := hl
  refine lv_lload_n hx hb dX12_common_0 rfl (lv_at hl 1 rfl) ?_
  refine lv_lconst (v := 0) hx hb dX12_common_1 (by decide) ?_
  refine W.lcmp hx hb dX12_common_2 ?_
  refine lv_if_ne (tgt := 10) hx hb dX12_common_3 (by decide) (fun h_1 => ?_) (fun h_1 => ?_)
  · skip
    have zh_1 : ¬ p1.toInt = 0 := zL_ne h_1 rfl rfl
    refine lv_lload_n hx hb dX12_common_10 rfl (lv_at hl 1 rfl) ?_
    refine lv_lload_n hx hb dX12_common_11 rfl (lv_at hl 0 rfl) ?_
    refine lv_lload_n hx hb dX12_common_12 rfl (lv_at hl 1 rfl) ?_
    refine lv_lrem hx hb dX12_common_13 (fun q9 => by have := congrArg (fun v : Int64 => v.toInt) q9; simp at this; omega) ?_
    refine lv_topl (fun x_2 ex_2 => ?_)
    have zx_2 := zl_rem ex_2 (by omega)
    obtain ⟨hPc, hDc, hFc⟩ := sub3 hP hD hS hA (ws' := []) [] (by decide +kernel) rfl
    refine va_calll (va_runS (As := [.long p1, .long x_2]) (rest := []) ⟨hx, hb, hml, hown, hts⟩ (c_X12_common_41 l D k p1 x_2 s.heap.size (show 3 * (p1.toInt.natAbs : Int) + 2 * (x_2.toInt.natAbs : Int) ≤ 90811043 ∧ x_2.toInt.natAbs ≤ p1.toInt.natAbs ∧ ¬ p1.toInt = 0 from by omega)) (va_cwS 2 hts (gS tw_8_192 tw_8_193 tw_1_13 tw_8_194) rfl rfl rfl hdS_X12_common ⟨Nat.le_of_ble_eq_true rfl, Nat.le_of_ble_eq_true rfl⟩) (cz_S hK hPc hDc hN [.long p1, .long x_2]) rfl rfl hl.1 rfl (lv_room (Nat.le_of_ble_eq_true rfl)) dX12_common_14 ⟨Nat.le_of_ble_eq_true rfl, Nat.le_of_ble_eq_true rfl⟩) hS (fun q _ h => hFc q h) hFc (fun r_3 uZ tZ H1 locs ht hvm hw hB hz1 hk1 hS => ?_)
    obtain ⟨hP1, hK1, hD1⟩ := hB
    rw [ht] at hP1
    obtain ⟨hP, hD⟩ := va_join (wr := []) (w1 := []) hP hD [] [] rfl rfl (by decide +kernel) (by decide +kernel) hk1 hFc hP1 hD1
    clear hK1 hP1 hD1 hPc hDc hFc
    clear hk1 hz1 ht hvm
    have hP : va_P D vwCl [] H1 := hP
    have hD : va_D A [] := hD
    generalize H1 = H at hP hS ⊢
    have hw_4 : (¬ r_3.toInt = 0) := hw
    have hw_5 := hw_4
    clear hw
    obtain ⟨hP9, hD9⟩ := sub2 hP hD (ws' := []) [] (by decide +kernel) rfl
    exact W.lret (v := r_3) hx hb hr (fun tZ ht hW => ⟨⟨r_3, (), rfl, (show ¬ r_3.toInt = 0 from by omega), by rw [ht]; exact hP9, va_K.moved hW.alike hK, hD9⟩, hS.F ht⟩) hS.2.2 dX12_common_17
  · skip
    have zh_1 : p1.toInt = 0 := zL_eq h_1 rfl rfl
    refine lv_lload_n hx hb dX12_common_6 rfl (lv_at hl 0 rfl) ?_
    refine lv_goto (tgt := 17) hx hb dX12_common_7 (by decide) ?_
    obtain ⟨hP9, hD9⟩ := sub2 hP hD (ws' := []) [] (by decide +kernel) rfl
    exact W.lret (v := p0) hx hb hr (fun tZ ht hW => ⟨⟨p0, (), rfl, (show ¬ p0.toInt = 0 from by omega), by rw [ht]; exact hP9, va_K.moved hW.alike hK, hD9⟩, hS.F ht⟩) hS.2.2 dX12_common_17
set_option maxHeartbeats 4000000 in
set_option maxRecDepth 100000 in
theorem c_X12_common_43 (l : Launch) (D : va_G) (k : Nat → ClassId) (p0 : Int64) (p1 : Int64) (sz : Nat) (hk : 3 * (p0.toInt.natAbs : Int) + 2 * (p1.toInt.natAbs : Int) ≤ 204324848 ∧ p1.toInt.natAbs ≤ p0.toInt.natAbs ∧ ¬ p0.toInt = 0) : Met l yX12_common (ww yX12_common cX12_common 4 (some .long)) ({ frames := 43, cells := 0, slots := 0, locals := 989 }) (Pre0 D k [] sz [.long p0, .long p1]) (va_Ql (fun (r : Int64) (_ : Unit) => (¬ r.toInt = 0)) (fun (_ : Unit) tZ => Bw D k (va_A [] sz) [] tZ) (va_A [] sz)) 0 0 (va_A [] sz) := by
  refine Met.ofW (cc := cX12_common) (maxL := 4) (ret := (some .long)) (by decide +kernel) rfl ?_
  intro p e s m args below meth c s₁ B hml hv
  obtain ⟨rfl, hsz, hP, hK, hD0, hN⟩ := hv
  have hx := B.exec
  have hb := B.bytes
  have hr := B.returns
  have hts : ∀ w ∈ TT, w.before _ s = true := fun w h => atoms_spec (ws := ww yX12_common cX12_common 4 (some .long)) B.pre w (List.mem_cons_of_mem _ h)
  have hown : s.vm.findClass RX12 = some m.cls := findClass_of_methodNamed B.named
  have hlocks := B.notSynchronized
  subst hsz
  have hD := hD0.self (sz := s.heap.size)
  generalize hAe : va_A [] s.heap.size = A at hD ⊢
  have hA : ∀ q : Nat, s.heap.size ≤ q → A q := fun q h => by rw [← hAe]; exact Or.inr h
  have hS : va_S A s.heap s.heap [] := va_S.rf
  have hl := lv_entry ([.long p0, .long p1]) (n := 4) (Nat.le_of_ble_eq_true rfl)
  rw [lg_entry_eq]
  generalize (lg_sl ([.long p0, .long p1]) ++ List.replicate (4 - (lg_sl ([.long p0, .long p1])).length) Slot.unset).toArray = ls at hl ⊢
  have hl : lv_has ls 4 [(0, .long p0), (2, .long p1)] := hl
  refine lv_lload_n hx hb dX12_common_0 rfl (lv_at hl 1 rfl) ?_
  refine lv_lconst (v := 0) hx hb dX12_common_1 (by decide) ?_
  refine W.lcmp hx hb dX12_common_2 ?_
  refine lv_if_ne (tgt := 10) hx hb dX12_common_3 (by decide) (fun h_1 => ?_) (fun h_1 => ?_)
  · skip
    have zh_1 : ¬ p1.toInt = 0 := zL_ne h_1 rfl rfl
    refine lv_lload_n hx hb dX12_common_10 rfl (lv_at hl 1 rfl) ?_
    refine lv_lload_n hx hb dX12_common_11 rfl (lv_at hl 0 rfl) ?_
    refine lv_lload_n hx hb dX12_common_12 rfl (lv_at hl 1 rfl) ?_
    refine lv_lrem hx hb dX12_common_13 (fun q9 => by have := congrArg (fun v : Int64 => v.toInt) q9; simp at this; omega) ?_
    refine lv_topl (fun x_2 ex_2 => ?_)
    have zx_2 := zl_rem ex_2 (by omega)
    obtain ⟨hPc, hDc, hFc⟩ := sub3 hP hD hS hA (ws' := []) [] (by decide +kernel) rfl
    refine va_calll (va_runS (As := [.long p1, .long x_2]) (rest := []) ⟨hx, hb, hml, hown, hts⟩ (c_X12_common_42 l D k p1 x_2 s.heap.size (show 3 * (p1.toInt.natAbs : Int) + 2 * (x_2.toInt.natAbs : Int) ≤ 136216565 ∧ x_2.toInt.natAbs ≤ p1.toInt.natAbs ∧ ¬ p1.toInt = 0 from by omega)) (va_cwS 2 hts (gS tw_8_192 tw_8_193 tw_1_13 tw_8_194) rfl rfl rfl hdS_X12_common ⟨Nat.le_of_ble_eq_true rfl, Nat.le_of_ble_eq_true rfl⟩) (cz_S hK hPc hDc hN [.long p1, .long x_2]) rfl rfl hl.1 rfl (lv_room (Nat.le_of_ble_eq_true rfl)) dX12_common_14 ⟨Nat.le_of_ble_eq_true rfl, Nat.le_of_ble_eq_true rfl⟩) hS (fun q _ h => hFc q h) hFc (fun r_3 uZ tZ H1 locs ht hvm hw hB hz1 hk1 hS => ?_)
    obtain ⟨hP1, hK1, hD1⟩ := hB
    rw [ht] at hP1
    obtain ⟨hP, hD⟩ := va_join (wr := []) (w1 := []) hP hD [] [] rfl rfl (by decide +kernel) (by decide +kernel) hk1 hFc hP1 hD1
    clear hK1 hP1 hD1 hPc hDc hFc
    clear hk1 hz1 ht hvm
    have hP : va_P D vwCl [] H1 := hP
    have hD : va_D A [] := hD
    generalize H1 = H at hP hS ⊢
    have hw_4 : (¬ r_3.toInt = 0) := hw
    have hw_5 := hw_4
    clear hw
    obtain ⟨hP9, hD9⟩ := sub2 hP hD (ws' := []) [] (by decide +kernel) rfl
    exact W.lret (v := r_3) hx hb hr (fun tZ ht hW => ⟨⟨r_3, (), rfl, (show ¬ r_3.toInt = 0 from by omega), by rw [ht]; exact hP9, va_K.moved hW.alike hK, hD9⟩, hS.F ht⟩) hS.2.2 dX12_common_17
  · skip
    have zh_1 : p1.toInt = 0 := zL_eq h_1 rfl rfl
    refine lv_lload_n hx hb dX12_common_6 rfl (lv_at hl 0 rfl) ?_
    refine lv_goto (tgt := 17) hx hb dX12_common_7 (by decide) ?_
    obtain ⟨hP9, hD9⟩ := sub2 hP hD (ws' := []) [] (by decide +kernel) rfl
    exact W.lret (v := p0) hx hb hr (fun tZ ht hW => ⟨⟨p0, (), rfl, (show ¬ p0.toInt = 0 from by omega), by rw [ht]; exact hP9, va_K.moved hW.alike hK, hD9⟩, hS.F ht⟩) hS.2.2 dX12_common_17
set_option maxHeartbeats 4000000 in
set_option maxRecDepth 100000 in
theorem c_X12_common_44 (l : Launch) (D : va_G) (k : Nat → ClassId) (p0 : Int64) (p1 : Int64) (sz : Nat) (hk : 3 * (p0.toInt.natAbs : Int) + 2 * (p1.toInt.natAbs : Int) ≤ 306487273 ∧ p1.toInt.natAbs ≤ p0.toInt.natAbs ∧ ¬ p0.toInt = 0) : Met l yX12_common (ww yX12_common cX12_common 4 (some .long)) ({ frames := 44, cells := 0, slots := 0, locals := 1012 }) (Pre0 D k [] sz [.long p0, .long p1]) (va_Ql (fun (r : Int64) (_ : Unit) => (¬ r.toInt = 0)) (fun (_ : Unit) tZ => Bw D k (va_A [] sz) [] tZ) (va_A [] sz)) 0 0 (va_A [] sz) := by
  refine Met.ofW (cc := cX12_common) (maxL := 4) (ret := (some .long)) (by decide +kernel) rfl ?_
  intro p e s m args below meth c s₁ B hml hv
  obtain ⟨rfl, hsz, hP, hK, hD0, hN⟩ := hv
  have hx := B.exec
  have hb := B.bytes
  have hr := B.returns
  have hts : ∀ w ∈ TT, w.before _ s = true := fun w h => atoms_spec (ws := ww yX12_common cX12_common 4 (some .long)) B.pre w (List.mem_cons_of_mem _ h)
  have hown : s.vm.findClass RX12 = some m.cls := findClass_of_methodNamed B.named
  have hlocks := B.notSynchronized
  subst hsz
  have hD := hD0.self (sz := s.heap.size)
  generalize hAe : va_A [] s.heap.size = A at hD ⊢
  have hA : ∀ q : Nat, s.heap.size ≤ q → A q := fun q h => by rw [← hAe]; exact Or.inr h
  have hS : va_S A s.heap s.heap [] := va_S.rf
  have hl := lv_entry ([.long p0, .long p1]) (n := 4) (Nat.le_of_ble_eq_true rfl)
  rw [lg_entry_eq]
  generalize (lg_sl ([.long p0, .long p1]) ++ List.replicate (4 - (lg_sl ([.long p0, .long p1])).length) Slot.unset).toArray = ls at hl ⊢
  have hl : lv_has ls 4 [(0, .long p0), (2, .long p1)] := hl
  refine lv_lload_n hx hb dX12_common_0 rfl (lv_at hl 1 rfl) ?_
  refine lv_lconst (v := 0) hx hb dX12_common_1 (by decide) ?_
  refine W.lcmp hx hb dX12_common_2 ?_
  refine lv_if_ne (tgt := 10) hx hb dX12_common_3 (by decide) (fun h_1 => ?_) (fun h_1 => ?_)
  · skip
    have zh_1 : ¬ p1.toInt = 0 := zL_ne h_1 rfl rfl
    refine lv_lload_n hx hb dX12_common_10 rfl (lv_at hl 1 rfl) ?_
    refine lv_lload_n hx hb dX12_common_11 rfl (lv_at hl 0 rfl) ?_
    refine lv_lload_n hx hb dX12_common_12 rfl (lv_at hl 1 rfl) ?_
    refine lv_lrem hx hb dX12_common_13 (fun q9 => by have := congrArg (fun v : Int64 => v.toInt) q9; simp at this; omega) ?_
    refine lv_topl (fun x_2 ex_2 => ?_)
    have zx_2 := zl_rem ex_2 (by omega)
    obtain ⟨hPc, hDc, hFc⟩ := sub3 hP hD hS hA (ws' := []) [] (by decide +kernel) rfl
    refine va_calll (va_runS (As := [.long p1, .long x_2]) (rest := []) ⟨hx, hb, hml, hown, hts⟩ (c_X12_common_43 l D k p1 x_2 s.heap.size (show 3 * (p1.toInt.natAbs : Int) + 2 * (x_2.toInt.natAbs : Int) ≤ 204324848 ∧ x_2.toInt.natAbs ≤ p1.toInt.natAbs ∧ ¬ p1.toInt = 0 from by omega)) (va_cwS 2 hts (gS tw_8_192 tw_8_193 tw_1_13 tw_8_194) rfl rfl rfl hdS_X12_common ⟨Nat.le_of_ble_eq_true rfl, Nat.le_of_ble_eq_true rfl⟩) (cz_S hK hPc hDc hN [.long p1, .long x_2]) rfl rfl hl.1 rfl (lv_room (Nat.le_of_ble_eq_true rfl)) dX12_common_14 ⟨Nat.le_of_ble_eq_true rfl, Nat.le_of_ble_eq_true rfl⟩) hS (fun q _ h => hFc q h) hFc (fun r_3 uZ tZ H1 locs ht hvm hw hB hz1 hk1 hS => ?_)
    obtain ⟨hP1, hK1, hD1⟩ := hB
    rw [ht] at hP1
    obtain ⟨hP, hD⟩ := va_join (wr := []) (w1 := []) hP hD [] [] rfl rfl (by decide +kernel) (by decide +kernel) hk1 hFc hP1 hD1
    clear hK1 hP1 hD1 hPc hDc hFc
    clear hk1 hz1 ht hvm
    have hP : va_P D vwCl [] H1 := hP
    have hD : va_D A [] := hD
    generalize H1 = H at hP hS ⊢
    have hw_4 : (¬ r_3.toInt = 0) := hw
    have hw_5 := hw_4
    clear hw
    obtain ⟨hP9, hD9⟩ := sub2 hP hD (ws' := []) [] (by decide +kernel) rfl
    exact W.lret (v := r_3) hx hb hr (fun tZ ht hW => ⟨⟨r_3, (), rfl, (show ¬ r_3.toInt = 0 from by omega), by rw [ht]; exact hP9, va_K.moved hW.alike hK, hD9⟩, hS.F ht⟩) hS.2.2 dX12_common_17
  · skip
    have zh_1 : p1.toInt = 0 := zL_eq h_1 rfl rfl
    refine lv_lload_n hx hb dX12_common_6 rfl (lv_at hl 0 rfl) ?_
    refine lv_goto (tgt := 17) hx hb dX12_common_7 (by decide) ?_
    obtain ⟨hP9, hD9⟩ := sub2 hP hD (ws' := []) [] (by decide +kernel) rfl
    exact W.lret (v := p0) hx hb hr (fun tZ ht hW => ⟨⟨p0, (), rfl, (show ¬ p0.toInt = 0 from by omega), by rw [ht]; exact hP9, va_K.moved hW.alike hK, hD9⟩, hS.F ht⟩) hS.2.2 dX12_common_17
set_option maxHeartbeats 4000000 in
set_option maxRecDepth 100000 in
theorem c_X12_common_45 (l : Launch) (D : va_G) (k : Nat → ClassId) (p0 : Int64) (p1 : Int64) (sz : Nat) (hk : 3 * (p0.toInt.natAbs : Int) + 2 * (p1.toInt.natAbs : Int) ≤ 459730910 ∧ p1.toInt.natAbs ≤ p0.toInt.natAbs ∧ ¬ p0.toInt = 0) : Met l yX12_common (ww yX12_common cX12_common 4 (some .long)) ({ frames := 45, cells := 0, slots := 0, locals := 1035 }) (Pre0 D k [] sz [.long p0, .long p1]) (va_Ql (fun (r : Int64) (_ : Unit) => (¬ r.toInt = 0)) (fun (_ : Unit) tZ => Bw D k (va_A [] sz) [] tZ) (va_A [] sz)) 0 0 (va_A [] sz) := by
  refine Met.ofW (cc := cX12_common) (maxL := 4) (ret := (some .long)) (by decide +kernel) rfl ?_
  intro p e s m args below meth c s₁ B hml hv
  obtain ⟨rfl, hsz, hP, hK, hD0, hN⟩ := hv
  have hx := B.exec
  have hb := B.bytes
  have hr := B.returns
  have hts : ∀ w ∈ TT, w.before _ s = true := fun w h => atoms_spec (ws := ww yX12_common cX12_common 4 (some .long)) B.pre w (List.mem_cons_of_mem _ h)
  have hown : s.vm.findClass RX12 = some m.cls := findClass_of_methodNamed B.named
  have hlocks := B.notSynchronized
  subst hsz
  have hD := hD0.self (sz := s.heap.size)
  generalize hAe : va_A [] s.heap.size = A at hD ⊢
  have hA : ∀ q : Nat, s.heap.size ≤ q → A q := fun q h => by rw [← hAe]; exact Or.inr h
  have hS : va_S A s.heap s.heap [] := va_S.rf
  have hl := lv_entry ([.long p0, .long p1]) (n := 4) (Nat.le_of_ble_eq_true rfl)
  rw [lg_entry_eq]
  generalize (lg_sl ([.long p0, .long p1]) ++ List.replicate (4 - (lg_sl ([.long p0, .long p1])).length) Slot.unset).toArray = ls at hl ⊢
  have hl : lv_has ls 4 [(0, .long p0), (2, .long p1)] := hl
  refine lv_lload_n hx hb dX12_common_0 rfl (lv_at hl 1 rfl) ?_
  refine lv_lconst (v := 0) hx hb dX12_common_1 (by decide) ?_
  refine W.lcmp hx hb dX12_common_2 ?_
  refine lv_if_ne (tgt := 10) hx hb dX12_common_3 (by decide) (fun h_1 => ?_) (fun h_1 => ?_)
  · skip
    have zh_1 : ¬ p1.toInt = 0 := zL_ne h_1 rfl rfl
    refine lv_lload_n hx hb dX12_common_10 rfl (lv_at hl 1 rfl) ?_
    refine lv_lload_n hx hb dX12_common_11 rfl (lv_at hl 0 rfl) ?_
    refine lv_lload_n hx hb dX12_common_12 rfl (lv_at hl 1 rfl) ?_
    refine lv_lrem hx hb dX12_common_13 (fun q9 => by have := congrArg (fun v : Int64 => v.toInt) q9; simp at this; omega) ?_
    refine lv_topl (fun x_2 ex_2 => ?_)
    have zx_2 := zl_rem ex_2 (by omega)
    obtain ⟨hPc, hDc, hFc⟩ := sub3 hP hD hS hA (ws' := []) [] (by decide +kernel) rfl
    refine va_calll (va_runS (As := [.long p1, .long x_2]) (rest := []) ⟨hx, hb, hml, hown, hts⟩ (c_X12_common_44 l D k p1 x_2 s.heap.size (show 3 * (p1.toInt.natAbs : Int) + 2 * (x_2.toInt.natAbs : Int) ≤ 306487273 ∧ x_2.toInt.natAbs ≤ p1.toInt.natAbs ∧ ¬ p1.toInt = 0 from by omega)) (va_cwS 2 hts (gS tw_8_192 tw_8_193 tw_1_13 tw_8_194) rfl rfl rfl hdS_X12_common ⟨Nat.le_of_ble_eq_true rfl, Nat.le_of_ble_eq_true rfl⟩) (cz_S hK hPc hDc hN [.long p1, .long x_2]) rfl rfl hl.1 rfl (lv_room (Nat.le_of_ble_eq_true rfl)) dX12_common_14 ⟨Nat.le_of_ble_eq_true rfl, Nat.le_of_ble_eq_true rfl⟩) hS (fun q _ h => hFc q h) hFc (fun r_3 uZ tZ H1 locs ht hvm hw hB hz1 hk1 hS => ?_)
    obtain ⟨hP1, hK1, hD1⟩ := hB
    rw [ht] at hP1
    obtain ⟨hP, hD⟩ := va_join (wr := []) (w1 := []) hP hD [] [] rfl rfl (by decide +kernel) (by decide +kernel) hk1 hFc hP1 hD1
    clear hK1 hP1 hD1 hPc hDc hFc
    clear hk1 hz1 ht hvm
    have hP : va_P D vwCl [] H1 := hP
    have hD : va_D A [] := hD
    generalize H1 = H at hP hS ⊢
    have hw_4 : (¬ r_3.toInt = 0) := hw
    have hw_5 := hw_4
    clear hw
    obtain ⟨hP9, hD9⟩ := sub2 hP hD (ws' := []) [] (by decide +kernel) rfl
    exact W.lret (v := r_3) hx hb hr (fun tZ ht hW => ⟨⟨r_3, (), rfl, (show ¬ r_3.toInt = 0 from by omega), by rw [ht]; exact hP9, va_K.moved hW.alike hK, hD9⟩, hS.F ht⟩) hS.2.2 dX12_common_17
  · skip
    have zh_1 : p1.toInt = 0 := zL_eq h_1 rfl rfl
    refine lv_lload_n hx hb dX12_common_6 rfl (lv_at hl 0 rfl) ?_
    refine lv_goto (tgt := 17) hx hb dX12_common_7 (by decide) ?_
    obtain ⟨hP9, hD9⟩ := sub2 hP hD (ws' := []) [] (by decide +kernel) rfl
    exact W.lret (v := p0) hx hb hr (fun tZ ht hW => ⟨⟨p0, (), rfl, (show ¬ p0.toInt = 0 from by omega), by rw [ht]; exact hP9, va_K.moved hW.alike hK, hD9⟩, hS.F ht⟩) hS.2.2 dX12_common_17
set_option maxHeartbeats 4000000 in
set_option maxRecDepth 100000 in
theorem c_X12_common_46 (l : Launch) (D : va_G) (k : Nat → ClassId) (p0 : Int64) (p1 : Int64) (sz : Nat) (hk : 3 * (p0.toInt.natAbs : Int) + 2 * (p1.toInt.natAbs : Int) ≤ 689596366 ∧ p1.toInt.natAbs ≤ p0.toInt.natAbs ∧ ¬ p0.toInt = 0) : Met l yX12_common (ww yX12_common cX12_common 4 (some .long)) ({ frames := 46, cells := 0, slots := 0, locals := 1058 }) (Pre0 D k [] sz [.long p0, .long p1]) (va_Ql (fun (r : Int64) (_ : Unit) => (¬ r.toInt = 0)) (fun (_ : Unit) tZ => Bw D k (va_A [] sz) [] tZ) (va_A [] sz)) 0 0 (va_A [] sz) := by
  refine Met.ofW (cc := cX12_common) (maxL := 4) (ret := (some .long)) (by decide +kernel) rfl ?_
  intro p e s m args below meth c s₁ B hml hv
  obtain ⟨rfl, hsz, hP, hK, hD0, hN⟩ := hv
  have hx := B.exec
  have hb := B.bytes
  have hr := B.returns
  have hts : ∀ w ∈ TT, w.before _ s = true := fun w h => atoms_spec (ws := ww yX12_common cX12_common 4 (some .long)) B.pre w (List.mem_cons_of_mem _ h)
  have hown : s.vm.findClass RX12 = some m.cls := findClass_of_methodNamed B.named
  have hlocks := B.notSynchronized
  subst hsz
  have hD := hD0.self (sz := s.heap.size)
  generalize hAe : va_A [] s.heap.size = A at hD ⊢
  have hA : ∀ q : Nat, s.heap.size ≤ q → A q := fun q h => by rw [← hAe]; exact Or.inr h
  have hS : va_S A s.heap s.heap [] := va_S.rf
  have hl := lv_entry ([.long p0, .long p1]) (n := 4) (Nat.le_of_ble_eq_true rfl)
  rw [lg_entry_eq]
  generalize (lg_sl ([.long p0, .long p1]) ++ List.replicate (4 - (lg_sl ([.long p0, .long p1])).length) Slot.unset).toArray = ls at hl ⊢
  have hl : lv_has ls 4 [(0, .long p0), (2, .long p1)] := hl
  refine lv_lload_n hx hb dX12_common_0 rfl (lv_at hl 1 rfl) ?_
  refine lv_lconst (v := 0) hx hb dX12_common_1 (by decide) ?_
  refine W.lcmp hx hb dX12_common_2 ?_
  refine lv_if_ne (tgt := 10) hx hb dX12_common_3 (by decide) (fun h_1 => ?_) (fun h_1 => ?_)
  · skip
    have zh_1 : ¬ p1.toInt = 0 := zL_ne h_1 rfl rfl
    refine lv_lload_n hx hb dX12_common_10 rfl (lv_at hl 1 rfl) ?_
    refine lv_lload_n hx hb dX12_common_11 rfl (lv_at hl 0 rfl) ?_
    refine lv_lload_n hx hb dX12_common_12 rfl (lv_at hl 1 rfl) ?_
    refine lv_lrem hx hb dX12_common_13 (fun q9 => by have := congrArg (fun v : Int64 => v.toInt) q9; simp at this; omega) ?_
    refine lv_topl (fun x_2 ex_2 => ?_)
    have zx_2 := zl_rem ex_2 (by omega)
    obtain ⟨hPc, hDc, hFc⟩ := sub3 hP hD hS hA (ws' := []) [] (by decide +kernel) rfl
    refine va_calll (va_runS (As := [.long p1, .long x_2]) (rest := []) ⟨hx, hb, hml, hown, hts⟩ (c_X12_common_45 l D k p1 x_2 s.heap.size (show 3 * (p1.toInt.natAbs : Int) + 2 * (x_2.toInt.natAbs : Int) ≤ 459730910 ∧ x_2.toInt.natAbs ≤ p1.toInt.natAbs ∧ ¬ p1.toInt = 0 from by omega)) (va_cwS 2 hts (gS tw_8_192 tw_8_193 tw_1_13 tw_8_194) rfl rfl rfl hdS_X12_common ⟨Nat.le_of_ble_eq_true rfl, Nat.le_of_ble_eq_true rfl⟩) (cz_S hK hPc hDc hN [.long p1, .long x_2]) rfl rfl hl.1 rfl (lv_room (Nat.le_of_ble_eq_true rfl)) dX12_common_14 ⟨Nat.le_of_ble_eq_true rfl, Nat.le_of_ble_eq_true rfl⟩) hS (fun q _ h => hFc q h) hFc (fun r_3 uZ tZ H1 locs ht hvm hw hB hz1 hk1 hS => ?_)
    obtain ⟨hP1, hK1, hD1⟩ := hB
    rw [ht] at hP1
    obtain ⟨hP, hD⟩ := va_join (wr := []) (w1 := []) hP hD [] [] rfl rfl (by decide +kernel) (by decide +kernel) hk1 hFc hP1 hD1
    clear hK1 hP1 hD1 hPc hDc hFc
    clear hk1 hz1 ht hvm
    have hP : va_P D vwCl [] H1 := hP
    have hD : va_D A [] := hD
    generalize H1 = H at hP hS ⊢
    have hw_4 : (¬ r_3.toInt = 0) := hw
    have hw_5 := hw_4
    clear hw
    obtain ⟨hP9, hD9⟩ := sub2 hP hD (ws' := []) [] (by decide +kernel) rfl
    exact W.lret (v := r_3) hx hb hr (fun tZ ht hW => ⟨⟨r_3, (), rfl, (show ¬ r_3.toInt = 0 from by omega), by rw [ht]; exact hP9, va_K.moved hW.alike hK, hD9⟩, hS.F ht⟩) hS.2.2 dX12_common_17
  · skip
    have zh_1 : p1.toInt = 0 := zL_eq h_1 rfl rfl
    refine lv_lload_n hx hb dX12_common_6 rfl (lv_at hl 0 rfl) ?_
    refine lv_goto (tgt := 17) hx hb dX12_common_7 (by decide) ?_
    obtain ⟨hP9, hD9⟩ := sub2 hP hD (ws' := []) [] (by decide +kernel) rfl
    exact W.lret (v := p0) hx hb hr (fun tZ ht hW => ⟨⟨p0, (), rfl, (show ¬ p0.toInt = 0 from by omega), by rw [ht]; exact hP9, va_K.moved hW.alike hK, hD9⟩, hS.F ht⟩) hS.2.2 dX12_common_17
set_option maxHeartbeats 4000000 in
set_option maxRecDepth 100000 in
theorem c_X12_common_47 (l : Launch) (D : va_G) (k : Nat → ClassId) (p0 : Int64) (p1 : Int64) (sz : Nat) (hk : 3 * (p0.toInt.natAbs : Int) + 2 * (p1.toInt.natAbs : Int) ≤ 1034394550 ∧ p1.toInt.natAbs ≤ p0.toInt.natAbs ∧ ¬ p0.toInt = 0) : Met l yX12_common (ww yX12_common cX12_common 4 (some .long)) ({ frames := 47, cells := 0, slots := 0, locals := 1081 }) (Pre0 D k [] sz [.long p0, .long p1]) (va_Ql (fun (r : Int64) (_ : Unit) => (¬ r.toInt = 0)) (fun (_ : Unit) tZ => Bw D k (va_A [] sz) [] tZ) (va_A [] sz)) 0 0 (va_A [] sz) := by
  refine Met.ofW (cc := cX12_common) (maxL := 4) (ret := (some .long)) (by decide +kernel) rfl ?_
  intro p e s m args below meth c s₁ B hml hv
  obtain ⟨rfl, hsz, hP, hK, hD0, hN⟩ := hv
  have hx := B.exec
  have hb := B.bytes
  have hr := B.returns
  have hts : ∀ w ∈ TT, w.before _ s = true := fun w h => atoms_spec (ws := ww yX12_common cX12_common 4 (some .long)) B.pre w (List.mem_cons_of_mem _ h)
  have hown : s.vm.findClass RX12 = some m.cls := findClass_of_methodNamed B.named
  have hlocks := B.notSynchronized
  subst hsz
  have hD := hD0.self (sz := s.heap.size)
  generalize hAe : va_A [] s.heap.size = A at hD ⊢
  have hA : ∀ q : Nat, s.heap.size ≤ q → A q := fun q h => by rw [← hAe]; exact Or.inr h
  have hS : va_S A s.heap s.heap [] := va_S.rf
  have hl := lv_entry ([.long p0, .long p1]) (n := 4) (Nat.le_of_ble_eq_true rfl)
  rw [lg_entry_eq]
  generalize (lg_sl ([.long p0, .long p1]) ++ List.replicate (4 - (lg_sl ([.long p0, .long p1])).length) Slot.unset).toArray = ls at hl ⊢
  have hl : lv_has ls 4 [(0, .long p0), (2, .long p1)] := hl
  refine lv_lload_n hx hb dX12_common_0 rfl (lv_at hl 1 rfl) ?_
  refine lv_lconst (v := 0) hx hb dX12_common_1 (by decide) ?_
  refine W.lcmp hx hb dX12_common_2 ?_
  refine lv_if_ne (tgt := 10) hx hb dX12_common_3 (by decide) (fun h_1 => ?_) (fun h_1 => ?_)
  · skip
    have zh_1 : ¬ p1.toInt = 0 := zL_ne h_1 rfl rfl
    refine lv_lload_n hx hb dX12_common_10 rfl (lv_at hl 1 rfl) ?_
    refine lv_lload_n hx hb dX12_common_11 rfl (lv_at hl 0 rfl) ?_
    refine lv_lload_n hx hb dX12_common_12 rfl (lv_at hl 1 rfl) ?_
    refine lv_lrem hx hb dX12_common_13 (fun q9 => by have := congrArg (fun v : Int64 => v.toInt) q9; simp at this; omega) ?_
    refine lv_topl (fun x_2 ex_2 => ?_)
    have zx_2 := zl_rem ex_2 (by omega)
    obtain ⟨hPc, hDc, hFc⟩ := sub3 hP hD hS hA (ws' := []) [] (by decide +kernel) rfl
    refine va_calll (va_runS (As := [.long p1, .long x_2]) (rest := []) ⟨hx, hb, hml, hown, hts⟩ (c_X12_common_46 l D k p1 x_2 s.heap.size (show 3 * (p1.toInt.natAbs : Int) + 2 * (x_2.toInt.natAbs : Int) ≤ 689596366 ∧ x_2.toInt.natAbs ≤ p1.toInt.natAbs ∧ ¬ p1.toInt = 0 from by omega)) (va_cwS 2 hts (gS tw_8_192 tw_8_193 tw_1_13 tw_8_194) rfl rfl rfl hdS_X12_common ⟨Nat.le_of_ble_eq_true rfl, Nat.le_of_ble_eq_true rfl⟩) (cz_S hK hPc hDc hN [.long p1, .long x_2]) rfl rfl hl.1 rfl (lv_room (Nat.le_of_ble_eq_true rfl)) dX12_common_14 ⟨Nat.le_of_ble_eq_true rfl, Nat.le_of_ble_eq_true rfl⟩) hS (fun q _ h => hFc q h) hFc (fun r_3 uZ tZ H1 locs ht hvm hw hB hz1 hk1 hS => ?_)
    obtain ⟨hP1, hK1, hD1⟩ := hB
    rw [ht] at hP1
    obtain ⟨hP, hD⟩ := va_join (wr := []) (w1 := []) hP hD [] [] rfl rfl (by decide +kernel) (by decide +kernel) hk1 hFc hP1 hD1
    clear hK1 hP1 hD1 hPc hDc hFc
    clear hk1 hz1 ht hvm
    have hP : va_P D vwCl [] H1 := hP
    have hD : va_D A [] := hD
    generalize H1 = H at hP hS ⊢
    have hw_4 : (¬ r_3.toInt = 0) := hw
    have hw_5 := hw_4
    clear hw
    obtain ⟨hP9, hD9⟩ := sub2 hP hD (ws' := []) [] (by decide +kernel) rfl
    exact W.lret (v := r_3) hx hb hr (fun tZ ht hW => ⟨⟨r_3, (), rfl, (show ¬ r_3.toInt = 0 from by omega), by rw [ht]; exact hP9, va_K.moved hW.alike hK, hD9⟩, hS.F ht⟩) hS.2.2 dX12_common_17
  · skip
    have zh_1 : p1.toInt = 0 := zL_eq h_1 rfl rfl
    refine lv_lload_n hx hb dX12_common_6 rfl (lv_at hl 0 rfl) ?_
    refine lv_goto (tgt := 17) hx hb dX12_common_7 (by decide) ?_
    obtain ⟨hP9, hD9⟩ := sub2 hP hD (ws' := []) [] (by decide +kernel) rfl
    exact W.lret (v := p0) hx hb hr (fun tZ ht hW => ⟨⟨p0, (), rfl, (show ¬ p0.toInt = 0 from by omega), by rw [ht]; exact hP9, va_K.moved hW.alike hK, hD9⟩, hS.F ht⟩) hS.2.2 dX12_common_17
set_option maxHeartbeats 4000000 in
set_option maxRecDepth 100000 in
theorem c_X12_common_48 (l : Launch) (D : va_G) (k : Nat → ClassId) (p0 : Int64) (p1 : Int64) (sz : Nat) (hk : 3 * (p0.toInt.natAbs : Int) + 2 * (p1.toInt.natAbs : Int) ≤ 1551591826 ∧ p1.toInt.natAbs ≤ p0.toInt.natAbs ∧ ¬ p0.toInt = 0) : Met l yX12_common (ww yX12_common cX12_common 4 (some .long)) ({ frames := 48, cells := 0, slots := 0, locals := 1104 }) (Pre0 D k [] sz [.long p0, .long p1]) (va_Ql (fun (r : Int64) (_ : Unit) => (¬ r.toInt = 0)) (fun (_ : Unit) tZ => Bw D k (va_A [] sz) [] tZ) (va_A [] sz)) 0 0 (va_A [] sz) := by
  refine Met.ofW (cc := cX12_common) (maxL := 4) (ret := (some .long)) (by decide +kernel) rfl ?_
  intro p e s m args below meth c s₁ B hml hv
  obtain ⟨rfl, hsz, hP, hK, hD0, hN⟩ := hv
  have hx := B.exec
  have hb := B.bytes
  have hr := B.returns
  have hts : ∀ w ∈ TT, w.before _ s = true := fun w h => atoms_spec (ws := ww yX12_common cX12_common 4 (some .long)) B.pre w (List.mem_cons_of_mem _ h)
  have hown : s.vm.findClass RX12 = some m.cls := findClass_of_methodNamed B.named
  have hlocks := B.notSynchronized
  subst hsz
  have hD := hD0.self (sz := s.heap.size)
  generalize hAe : va_A [] s.heap.size = A at hD ⊢
  have hA : ∀ q : Nat, s.heap.size ≤ q → A q := fun q h => by rw [← hAe]; exact Or.inr h
  have hS : va_S A s.heap s.heap [] := va_S.rf
  have hl := lv_entry ([.long p0, .long p1]) (n := 4) (Nat.le_of_ble_eq_true rfl)
  rw [lg_entry_eq]
  generalize (lg_sl ([.long p0, .long p1]) ++ List.replicate (4 - (lg_sl ([.long p0, .long p1])).length) Slot.unset).toArray = ls at hl ⊢
  have hl : lv_has ls 4 [(0, .long p0), (2, .long p1)] := hl
  refine lv_lload_n hx hb dX12_common_0 rfl (lv_at hl 1 rfl) ?_
  refine lv_lconst (v := 0) hx hb dX12_common_1 (by decide) ?_
  refine W.lcmp hx hb dX12_common_2 ?_
  refine lv_if_ne (tgt := 10) hx hb dX12_common_3 (by decide) (fun h_1 => ?_) (fun h_1 => ?_)
  · skip
    have zh_1 : ¬ p1.toInt = 0 := zL_ne h_1 rfl rfl
    refine lv_lload_n hx hb dX12_common_10 rfl (lv_at hl 1 rfl) ?_
    refine lv_lload_n hx hb dX12_common_11 rfl (lv_at hl 0 rfl) ?_
    refine lv_lload_n hx hb dX12_common_12 rfl (lv_at hl 1 rfl) ?_
    refine lv_lrem hx hb dX12_common_13 (fun q9 => by have := congrArg (fun v : Int64 => v.toInt) q9; simp at this; omega) ?_
    refine lv_topl (fun x_2 ex_2 => ?_)
    have zx_2 := zl_rem ex_2 (by omega)
    obtain ⟨hPc, hDc, hFc⟩ := sub3 hP hD hS hA (ws' := []) [] (by decide +kernel) rfl
    refine va_calll (va_runS (As := [.long p1, .long x_2]) (rest := []) ⟨hx, hb, hml, hown, hts⟩ (c_X12_common_47 l D k p1 x_2 s.heap.size (show 3 * (p1.toInt.natAbs : Int) + 2 * (x_2.toInt.natAbs : Int) ≤ 1034394550 ∧ x_2.toInt.natAbs ≤ p1.toInt.natAbs ∧ ¬ p1.toInt = 0 from by omega)) (va_cwS 2 hts (gS tw_8_192 tw_8_193 tw_1_13 tw_8_194) rfl rfl rfl hdS_X12_common ⟨Nat.le_of_ble_eq_true rfl, Nat.le_of_ble_eq_true rfl⟩) (cz_S hK hPc hDc hN [.long p1, .long x_2]) rfl rfl hl.1 rfl (lv_room (Nat.le_of_ble_eq_true rfl)) dX12_common_14 ⟨Nat.le_of_ble_eq_true rfl, Nat.le_of_ble_eq_true rfl⟩) hS (fun q _ h => hFc q h) hFc (fun r_3 uZ tZ H1 locs ht hvm hw hB hz1 hk1 hS => ?_)
    obtain ⟨hP1, hK1, hD1⟩ := hB
    rw [ht] at hP1
    obtain ⟨hP, hD⟩ := va_join (wr := []) (w1 := []) hP hD [] [] rfl rfl (by decide +kernel) (by decide +kernel) hk1 hFc hP1 hD1
    clear hK1 hP1 hD1 hPc hDc hFc
    clear hk1 hz1 ht hvm
    have hP : va_P D vwCl [] H1 := hP
    have hD : va_D A [] := hD
    generalize H1 = H at hP hS ⊢
    have hw_4 : (¬ r_3.toInt = 0) := hw
    have hw_5 := hw_4
    clear hw
    obtain ⟨hP9, hD9⟩ := sub2 hP hD (ws' := []) [] (by decide +kernel) rfl
    exact W.lret (v := r_3) hx hb hr (fun tZ ht hW => ⟨⟨r_3, (), rfl, (show ¬ r_3.toInt = 0 from by omega), by rw [ht]; exact hP9, va_K.moved hW.alike hK, hD9⟩, hS.F ht⟩) hS.2.2 dX12_common_17
  · skip
    have zh_1 : p1.toInt = 0 := zL_eq h_1 rfl rfl
    refine lv_lload_n hx hb dX12_common_6 rfl (lv_at hl 0 rfl) ?_
    refine lv_goto (tgt := 17) hx hb dX12_common_7 (by decide) ?_
    obtain ⟨hP9, hD9⟩ := sub2 hP hD (ws' := []) [] (by decide +kernel) rfl
    exact W.lret (v := p0) hx hb hr (fun tZ ht hW => ⟨⟨p0, (), rfl, (show ¬ p0.toInt = 0 from by omega), by rw [ht]; exact hP9, va_K.moved hW.alike hK, hD9⟩, hS.F ht⟩) hS.2.2 dX12_common_17
set_option maxHeartbeats 4000000 in
set_option maxRecDepth 100000 in
theorem c_X12_common_49 (l : Launch) (D : va_G) (k : Nat → ClassId) (p0 : Int64) (p1 : Int64) (sz : Nat) (hk : 3 * (p0.toInt.natAbs : Int) + 2 * (p1.toInt.natAbs : Int) ≤ 2327387740 ∧ p1.toInt.natAbs ≤ p0.toInt.natAbs ∧ ¬ p0.toInt = 0) : Met l yX12_common (ww yX12_common cX12_common 4 (some .long)) ({ frames := 49, cells := 0, slots := 0, locals := 1127 }) (Pre0 D k [] sz [.long p0, .long p1]) (va_Ql (fun (r : Int64) (_ : Unit) => (¬ r.toInt = 0)) (fun (_ : Unit) tZ => Bw D k (va_A [] sz) [] tZ) (va_A [] sz)) 0 0 (va_A [] sz) := by
  refine Met.ofW (cc := cX12_common) (maxL := 4) (ret := (some .long)) (by decide +kernel) rfl ?_
  intro p e s m args below meth c s₁ B hml hv
  obtain ⟨rfl, hsz, hP, hK, hD0, hN⟩ := hv
  have hx := B.exec
  have hb := B.bytes
  have hr := B.returns
  have hts : ∀ w ∈ TT, w.before _ s = true := fun w h => atoms_spec (ws := ww yX12_common cX12_common 4 (some .long)) B.pre w (List.mem_cons_of_mem _ h)
  have hown : s.vm.findClass RX12 = some m.cls := findClass_of_methodNamed B.named
  have hlocks := B.notSynchronized
  subst hsz
  have hD := hD0.self (sz := s.heap.size)
  generalize hAe : va_A [] s.heap.size = A at hD ⊢
  have hA : ∀ q : Nat, s.heap.size ≤ q → A q := fun q h => by rw [← hAe]; exact Or.inr h
  have hS : va_S A s.heap s.heap [] := va_S.rf
  have hl := lv_entry ([.long p0, .long p1]) (n := 4) (Nat.le_of_ble_eq_true rfl)
  rw [lg_entry_eq]
  generalize (lg_sl ([.long p0, .long p1]) ++ List.replicate (4 - (lg_sl ([.long p0, .long p1])).length) Slot.unset).toArray = ls at hl ⊢
  have hl : lv_has ls 4 [(0, .long p0), (2, .long p1)] := hl
  refine lv_lload_n hx hb dX12_common_0 rfl (lv_at hl 1 rfl) ?_
  refine lv_lconst (v := 0) hx hb dX12_common_1 (by decide) ?_
  refine W.lcmp hx hb dX12_common_2 ?_
  refine lv_if_ne (tgt := 10) hx hb dX12_common_3 (by decide) (fun h_1 => ?_) (fun h_1 => ?_)
  · skip
    have zh_1 : ¬ p1.toInt = 0 := zL_ne h_1 rfl rfl
    refine lv_lload_n hx hb dX12_common_10 rfl (lv_at hl 1 rfl) ?_
    refine lv_lload_n hx hb dX12_common_11 rfl (lv_at hl 0 rfl) ?_
    refine lv_lload_n hx hb dX12_common_12 rfl (lv_at hl 1 rfl) ?_
    refine lv_lrem hx hb dX12_common_13 (fun q9 => by have := congrArg (fun v : Int64 => v.toInt) q9; simp at this; omega) ?_
    refine lv_topl (fun x_2 ex_2 => ?_)
    have zx_2 := zl_rem ex_2 (by omega)
    obtain ⟨hPc, hDc, hFc⟩ := sub3 hP hD hS hA (ws' := []) [] (by decide +kernel) rfl
    refine va_calll (va_runS (As := [.long p1, .long x_2]) (rest := []) ⟨hx, hb, hml, hown, hts⟩ (c_X12_common_48 l D k p1 x_2 s.heap.size (show 3 * (p1.toInt.natAbs : Int) + 2 * (x_2.toInt.natAbs : Int) ≤ 1551591826 ∧ x_2.toInt.natAbs ≤ p1.toInt.natAbs ∧ ¬ p1.toInt = 0 from by omega)) (va_cwS 2 hts (gS tw_8_192 tw_8_193 tw_1_13 tw_8_194) rfl rfl rfl hdS_X12_common ⟨Nat.le_of_ble_eq_true rfl, Nat.le_of_ble_eq_true rfl⟩) (cz_S hK hPc hDc hN [.long p1, .long x_2]) rfl rfl hl.1 rfl (lv_room (Nat.le_of_ble_eq_true rfl)) dX12_common_14 ⟨Nat.le_of_ble_eq_true rfl, Nat.le_of_ble_eq_true rfl⟩) hS (fun q _ h => hFc q h) hFc (fun r_3 uZ tZ H1 locs ht hvm hw hB hz1 hk1 hS => ?_)
    obtain ⟨hP1, hK1, hD1⟩ := hB
    rw [ht] at hP1
    obtain ⟨hP, hD⟩ := va_join (wr := []) (w1 := []) hP hD [] [] rfl rfl (by decide +kernel) (by decide +kernel) hk1 hFc hP1 hD1
    clear hK1 hP1 hD1 hPc hDc hFc
    clear hk1 hz1 ht hvm
    have hP : va_P D vwCl [] H1 := hP
    have hD : va_D A [] := hD
    generalize H1 = H at hP hS ⊢
    have hw_4 : (¬ r_3.toInt = 0) := hw
    have hw_5 := hw_4
    clear hw
    obtain ⟨hP9, hD9⟩ := sub2 hP hD (ws' := []) [] (by decide +kernel) rfl
    exact W.lret (v := r_3) hx hb hr (fun tZ ht hW => ⟨⟨r_3, (), rfl, (show ¬ r_3.toInt = 0 from by omega), by rw [ht]; exact hP9, va_K.moved hW.alike hK, hD9⟩, hS.F ht⟩) hS.2.2 dX12_common_17
  · skip
    have zh_1 : p1.toInt = 0 := zL_eq h_1 rfl rfl
    refine lv_lload_n hx hb dX12_common_6 rfl (lv_at hl 0 rfl) ?_
    refine lv_goto (tgt := 17) hx hb dX12_common_7 (by decide) ?_
    obtain ⟨hP9, hD9⟩ := sub2 hP hD (ws' := []) [] (by decide +kernel) rfl
    exact W.lret (v := p0) hx hb hr (fun tZ ht hW => ⟨⟨p0, (), rfl, (show ¬ p0.toInt = 0 from by omega), by rw [ht]; exact hP9, va_K.moved hW.alike hK, hD9⟩, hS.F ht⟩) hS.2.2 dX12_common_17
set_option maxHeartbeats 4000000 in
set_option maxRecDepth 100000 in
theorem c_X12_common_50 (l : Launch) (D : va_G) (k : Nat → ClassId) (p0 : Int64) (p1 : Int64) (sz : Nat) (hk : 3 * (p0.toInt.natAbs : Int) + 2 * (p1.toInt.natAbs : Int) ≤ 3491081611 ∧ p1.toInt.natAbs ≤ p0.toInt.natAbs ∧ ¬ p0.toInt = 0) : Met l yX12_common (ww yX12_common cX12_common 4 (some .long)) ({ frames := 50, cells := 0, slots := 0, locals := 1150 }) (Pre0 D k [] sz [.long p0, .long p1]) (va_Ql (fun (r : Int64) (_ : Unit) => (¬ r.toInt = 0)) (fun (_ : Unit) tZ => Bw D k (va_A [] sz) [] tZ) (va_A [] sz)) 0 0 (va_A [] sz) := by
  refine Met.ofW (cc := cX12_common) (maxL := 4) (ret := (some .long)) (by decide +kernel) rfl ?_
  intro p e s m args below meth c s₁ B hml hv
  obtain ⟨rfl, hsz, hP, hK, hD0, hN⟩ := hv
  have hx := B.exec
  have hb := B.bytes
  have hr := B.returns
  have hts : ∀ w ∈ TT, w.before _ s = true := fun w h => atoms_spec (ws := ww yX12_common cX12_common 4 (some .long)) B.pre w (List.mem_cons_of_mem _ h)
  have hown : s.vm.findClass RX12 = some m.cls := findClass_of_methodNamed B.named
  have hlocks := B.notSynchronized
  subst hsz
  have hD := hD0.self (sz := s.heap.size)
  generalize hAe : va_A [] s.heap.size = A at hD ⊢
  have hA : ∀ q : Nat, s.heap.size ≤ q → A q := fun q h => by rw [← hAe]; exact Or.inr h
  have hS : va_S A s.heap s.heap [] := va_S.rf
  have hl := lv_entry ([.long p0, .long p1]) (n := 4) (Nat.le_of_ble_eq_true rfl)
  rw [lg_entry_eq]
  generalize (lg_sl ([.long p0, .long p1]) ++ List.replicate (4 - (lg_sl ([.long p0, .long p1])).length) Slot.unset).toArray = ls at hl ⊢
  have hl : lv_has ls 4 [(0, .long p0), (2, .long p1)] := hl
  refine lv_lload_n hx hb dX12_common_0 rfl (lv_at hl 1 rfl) ?_
  refine lv_lconst (v := 0) hx hb dX12_common_1 (by decide) ?_
  refine W.lcmp hx hb dX12_common_2 ?_
  refine lv_if_ne (tgt := 10) hx hb dX12_common_3 (by decide) (fun h_1 => ?_) (fun h_1 => ?_)
  · skip
    have zh_1 : ¬ p1.toInt = 0 := zL_ne h_1 rfl rfl
    refine lv_lload_n hx hb dX12_common_10 rfl (lv_at hl 1 rfl) ?_
    refine lv_lload_n hx hb dX12_common_11 rfl (lv_at hl 0 rfl) ?_
    refine lv_lload_n hx hb dX12_common_12 rfl (lv_at hl 1 rfl) ?_
    refine lv_lrem hx hb dX12_common_13 (fun q9 => by have := congrArg (fun v : Int64 => v.toInt) q9; simp at this; omega) ?_
    refine lv_topl (fun x_2 ex_2 => ?_)
    have zx_2 := zl_rem ex_2 (by omega)
    obtain ⟨hPc, hDc, hFc⟩ := sub3 hP hD hS hA (ws' := []) [] (by decide +kernel) rfl
    refine va_calll (va_runS (As := [.long p1, .long x_2]) (rest := []) ⟨hx, hb, hml, hown, hts⟩ (c_X12_common_49 l D k p1 x_2 s.heap.size (show 3 * (p1.toInt.natAbs : Int) + 2 * (x_2.toInt.natAbs : Int) ≤ 2327387740 ∧ x_2.toInt.natAbs ≤ p1.toInt.natAbs ∧ ¬ p1.toInt = 0 from by omega)) (va_cwS 2 hts (gS tw_8_192 tw_8_193 tw_1_13 tw_8_194) rfl rfl rfl hdS_X12_common ⟨Nat.le_of_ble_eq_true rfl, Nat.le_of_ble_eq_true rfl⟩) (cz_S hK hPc hDc hN [.long p1, .long x_2]) rfl rfl hl.1 rfl (lv_room (Nat.le_of_ble_eq_true rfl)) dX12_common_14 ⟨Nat.le_of_ble_eq_true rfl, Nat.le_of_ble_eq_true rfl⟩) hS (fun q _ h => hFc q h) hFc (fun r_3 uZ tZ H1 locs ht hvm hw hB hz1 hk1 hS => ?_)
    obtain ⟨hP1, hK1, hD1⟩ := hB
    rw [ht] at hP1
    obtain ⟨hP, hD⟩ := va_join (wr := []) (w1 := []) hP hD [] [] rfl rfl (by decide +kernel) (by decide +kernel) hk1 hFc hP1 hD1
    clear hK1 hP1 hD1 hPc hDc hFc
    clear hk1 hz1 ht hvm
    have hP : va_P D vwCl [] H1 := hP
    have hD : va_D A [] := hD
    generalize H1 = H at hP hS ⊢
    have hw_4 : (¬ r_3.toInt = 0) := hw
    have hw_5 := hw_4
    clear hw
    obtain ⟨hP9, hD9⟩ := sub2 hP hD (ws' := []) [] (by decide +kernel) rfl
    exact W.lret (v := r_3) hx hb hr (fun tZ ht hW => ⟨⟨r_3, (), rfl, (show ¬ r_3.toInt = 0 from by omega), by rw [ht]; exact hP9, va_K.moved hW.alike hK, hD9⟩, hS.F ht⟩) hS.2.2 dX12_common_17
  · skip
    have zh_1 : p1.toInt = 0 := zL_eq h_1 rfl rfl
    refine lv_lload_n hx hb dX12_common_6 rfl (lv_at hl 0 rfl) ?_
    refine lv_goto (tgt := 17) hx hb dX12_common_7 (by decide) ?_
    obtain ⟨hP9, hD9⟩ := sub2 hP hD (ws' := []) [] (by decide +kernel) rfl
    exact W.lret (v := p0) hx hb hr (fun tZ ht hW => ⟨⟨p0, (), rfl, (show ¬ p0.toInt = 0 from by omega), by rw [ht]; exact hP9, va_K.moved hW.alike hK, hD9⟩, hS.F ht⟩) hS.2.2 dX12_common_17
set_option maxHeartbeats 4000000 in
set_option maxRecDepth 100000 in
theorem c_X12_common_51 (l : Launch) (D : va_G) (k : Nat → ClassId) (p0 : Int64) (p1 : Int64) (sz : Nat) (hk : 3 * (p0.toInt.natAbs : Int) + 2 * (p1.toInt.natAbs : Int) ≤ 5236622417 ∧ p1.toInt.natAbs ≤ p0.toInt.natAbs ∧ ¬ p0.toInt = 0) : Met l yX12_common (ww yX12_common cX12_common 4 (some .long)) ({ frames := 51, cells := 0, slots := 0, locals := 1173 }) (Pre0 D k [] sz [.long p0, .long p1]) (va_Ql (fun (r : Int64) (_ : Unit) => (¬ r.toInt = 0)) (fun (_ : Unit) tZ => Bw D k (va_A [] sz) [] tZ) (va_A [] sz)) 0 0 (va_A [] sz) := by
  refine Met.ofW (cc := cX12_common) (maxL := 4) (ret := (some .long)) (by decide +kernel) rfl ?_
  intro p e s m args below meth c s₁ B hml hv
  obtain ⟨rfl, hsz, hP, hK, hD0, hN⟩ := hv
  have hx := B.exec
  have hb := B.bytes
  have hr := B.returns
  have hts : ∀ w ∈ TT, w.before _ s = true := fun w h => atoms_spec (ws := ww yX12_common cX12_common 4 (some .long)) B.pre w (List.mem_cons_of_mem _ h)
  have hown : s.vm.findClass RX12 = some m.cls := findClass_of_methodNamed B.named
  have hlocks := B.notSynchronized
  subst hsz
  have hD := hD0.self (sz := s.heap.size)
  generalize hAe : va_A [] s.heap.size = A at hD ⊢
  have hA : ∀ q : Nat, s.heap.size ≤ q → A q := fun q h => by rw [← hAe]; exact Or.inr h
  have hS : va_S A s.heap s.heap [] := va_S.rf
  have hl := lv_entry ([.long p0, .long p1]) (n := 4) (Nat.le_of_ble_eq_true rfl)
  rw [lg_entry_eq]
  generalize (lg_sl ([.long p0, .long p1]) ++ List.replicate (4 - (lg_sl ([.long p0, .long p1])).length) Slot.unset).toArray = ls at hl ⊢
  have hl : lv_has ls 4 [(0, .long p0), (2, .long p1)] := hl
  refine lv_lload_n hx hb dX12_common_0 rfl (lv_at hl 1 rfl) ?_
  refine lv_lconst (v := 0) hx hb dX12_common_1 (by decide) ?_
  refine W.lcmp hx hb dX12_common_2 ?_
  refine lv_if_ne (tgt := 10) hx hb dX12_common_3 (by decide) (fun h_1 => ?_) (fun h_1 => ?_)
  · skip
    have zh_1 : ¬ p1.toInt = 0 := zL_ne h_1 rfl rfl
    refine lv_lload_n hx hb dX12_common_10 rfl (lv_at hl 1 rfl) ?_
    refine lv_lload_n hx hb dX12_common_11 rfl (lv_at hl 0 rfl) ?_
    refine lv_lload_n hx hb dX12_common_12 rfl (lv_at hl 1 rfl) ?_
    refine lv_lrem hx hb dX12_common_13 (fun q9 => by have := congrArg (fun v : Int64 => v.toInt) q9; simp at this; omega) ?_
    refine lv_topl (fun x_2 ex_2 => ?_)
    have zx_2 := zl_rem ex_2 (by omega)
    obtain ⟨hPc, hDc, hFc⟩ := sub3 hP hD hS hA (ws' := []) [] (by decide +kernel) rfl
    refine va_calll (va_runS (As := [.long p1, .long x_2]) (rest := []) ⟨hx, hb, hml, hown, hts⟩ (c_X12_common_50 l D k p1 x_2 s.heap.size (show 3 * (p1.toInt.natAbs : Int) + 2 * (x_2.toInt.natAbs : Int) ≤ 3491081611 ∧ x_2.toInt.natAbs ≤ p1.toInt.natAbs ∧ ¬ p1.toInt = 0 from by omega)) (va_cwS 2 hts (gS tw_8_192 tw_8_193 tw_1_13 tw_8_194) rfl rfl rfl hdS_X12_common ⟨Nat.le_of_ble_eq_true rfl, Nat.le_of_ble_eq_true rfl⟩) (cz_S hK hPc hDc hN [.long p1, .long x_2]) rfl rfl hl.1 rfl (lv_room (Nat.le_of_ble_eq_true rfl)) dX12_common_14 ⟨Nat.le_of_ble_eq_true rfl, Nat.le_of_ble_eq_true rfl⟩) hS (fun q _ h => hFc q h) hFc (fun r_3 uZ tZ H1 locs ht hvm hw hB hz1 hk1 hS => ?_)
    obtain ⟨hP1, hK1, hD1⟩ := hB
    rw [ht] at hP1
    obtain ⟨hP, hD⟩ := va_join (wr := []) (w1 := []) hP hD [] [] rfl rfl (by decide +kernel) (by decide +kernel) hk1 hFc hP1 hD1
    clear hK1 hP1 hD1 hPc hDc hFc
    clear hk1 hz1 ht hvm
    have hP : va_P D vwCl [] H1 := hP
    have hD : va_D A [] := hD
    generalize H1 = H at hP hS ⊢
    have hw_4 : (¬ r_3.toInt = 0) := hw
    have hw_5 := hw_4
    clear hw
    obtain ⟨hP9, hD9⟩ := sub2 hP hD (ws' := []) [] (by decide +kernel) rfl
    exact W.lret (v := r_3) hx hb hr (fun tZ ht hW => ⟨⟨r_3, (), rfl, (show ¬ r_3.toInt = 0 from by omega), by rw [ht]; exact hP9, va_K.moved hW.alike hK, hD9⟩, hS.F ht⟩) hS.2.2 dX12_common_17
  · skip
    have zh_1 : p1.toInt = 0 := zL_eq h_1 rfl rfl
    refine lv_lload_n hx hb dX12_common_6 rfl (lv_at hl 0 rfl) ?_
    refine lv_goto (tgt := 17) hx hb dX12_common_7 (by decide) ?_
    obtain ⟨hP9, hD9⟩ := sub2 hP hD (ws' := []) [] (by decide +kernel) rfl
    exact W.lret (v := p0) hx hb hr (fun tZ ht hW => ⟨⟨p0, (), rfl, (show ¬ p0.toInt = 0 from by omega), by rw [ht]; exact hP9, va_K.moved hW.alike hK, hD9⟩, hS.F ht⟩) hS.2.2 dX12_common_17
set_option maxHeartbeats 4000000 in
set_option maxRecDepth 100000 in
theorem c_X12_common_52 (l : Launch) (D : va_G) (k : Nat → ClassId) (p0 : Int64) (p1 : Int64) (sz : Nat) (hk : 3 * (p0.toInt.natAbs : Int) + 2 * (p1.toInt.natAbs : Int) ≤ 7854933626 ∧ p1.toInt.natAbs ≤ p0.toInt.natAbs ∧ ¬ p0.toInt = 0) : Met l yX12_common (ww yX12_common cX12_common 4 (some .long)) ({ frames := 52, cells := 0, slots := 0, locals := 1196 }) (Pre0 D k [] sz [.long p0, .long p1]) (va_Ql (fun (r : Int64) (_ : Unit) => (¬ r.toInt = 0)) (fun (_ : Unit) tZ => Bw D k (va_A [] sz) [] tZ) (va_A [] sz)) 0 0 (va_A [] sz) := by
  refine Met.ofW (cc := cX12_common) (maxL := 4) (ret := (some .long)) (by decide +kernel) rfl ?_
  intro p e s m args below meth c s₁ B hml hv
  obtain ⟨rfl, hsz, hP, hK, hD0, hN⟩ := hv
  have hx := B.exec
  have hb := B.bytes
  have hr := B.returns
  have hts : ∀ w ∈ TT, w.before _ s = true := fun w h => atoms_spec (ws := ww yX12_common cX12_common 4 (some .long)) B.pre w (List.mem_cons_of_mem _ h)
  have hown : s.vm.findClass RX12 = some m.cls := findClass_of_methodNamed B.named
  have hlocks := B.notSynchronized
  subst hsz
  have hD := hD0.self (sz := s.heap.size)
  generalize hAe : va_A [] s.heap.size = A at hD ⊢
  have hA : ∀ q : Nat, s.heap.size ≤ q → A q := fun q h => by rw [← hAe]; exact Or.inr h
  have hS : va_S A s.heap s.heap [] := va_S.rf
  have hl := lv_entry ([.long p0, .long p1]) (n := 4) (Nat.le_of_ble_eq_true rfl)
  rw [lg_entry_eq]
  generalize (lg_sl ([.long p0, .long p1]) ++ List.replicate (4 - (lg_sl ([.long p0, .long p1])).length) Slot.unset).toArray = ls at hl ⊢
  have hl : lv_has ls 4 [(0, .long p0), (2, .long p1)] := hl
  refine lv_lload_n hx hb dX12_common_0 rfl (lv_at hl 1 rfl) ?_
  refine lv_lconst (v := 0) hx hb dX12_common_1 (by decide) ?_
  refine W.lcmp hx hb dX12_common_2 ?_
  refine lv_if_ne (tgt := 10) hx hb dX12_common_3 (by decide) (fun h_1 => ?_) (fun h_1 => ?_)
  · skip
    have zh_1 : ¬ p1.toInt = 0 := zL_ne h_1 rfl rfl
    refine lv_lload_n hx hb dX12_common_10 rfl (lv_at hl 1 rfl) ?_
    refine lv_lload_n hx hb dX12_common_11 rfl (lv_at hl 0 rfl) ?_
    refine lv_lload_n hx hb dX12_common_12 rfl (lv_at hl 1 rfl) ?_
    refine lv_lrem hx hb dX12_common_13 (fun q9 => by have := congrArg (fun v : Int64 => v.toInt) q9; simp at this; omega) ?_
    refine lv_topl (fun x_2 ex_2 => ?_)
    have zx_2 := zl_rem ex_2 (by omega)
    obtain ⟨hPc, hDc, hFc⟩ := sub3 hP hD hS hA (ws' := []) [] (by decide +kernel) rfl
    refine va_calll (va_runS (As := [.long p1, .long x_2]) (rest := []) ⟨hx, hb, hml, hown, hts⟩ (c_X12_common_51 l D k p1 x_2 s.heap.size (show 3 * (p1.toInt.natAbs : Int) + 2 * (x_2.toInt.natAbs : Int) ≤ 5236622417 ∧ x_2.toInt.natAbs ≤ p1.toInt.natAbs ∧ ¬ p1.toInt = 0 from by omega)) (va_cwS 2 hts (gS tw_8_192 tw_8_193 tw_1_13 tw_8_194) rfl rfl rfl hdS_X12_common ⟨Nat.le_of_ble_eq_true rfl, Nat.le_of_ble_eq_true rfl⟩) (cz_S hK hPc hDc hN [.long p1, .long x_2]) rfl rfl hl.1 rfl (lv_room (Nat.le_of_ble_eq_true rfl)) dX12_common_14 ⟨Nat.le_of_ble_eq_true rfl, Nat.le_of_ble_eq_true rfl⟩) hS (fun q _ h => hFc q h) hFc (fun r_3 uZ tZ H1 locs ht hvm hw hB hz1 hk1 hS => ?_)
    obtain ⟨hP1, hK1, hD1⟩ := hB
    rw [ht] at hP1
    obtain ⟨hP, hD⟩ := va_join (wr := []) (w1 := []) hP hD [] [] rfl rfl (by decide +kernel) (by decide +kernel) hk1 hFc hP1 hD1
    clear hK1 hP1 hD1 hPc hDc hFc
    clear hk1 hz1 ht hvm
    have hP : va_P D vwCl [] H1 := hP
    have hD : va_D A [] := hD
    generalize H1 = H at hP hS ⊢
    have hw_4 : (¬ r_3.toInt = 0) := hw
    have hw_5 := hw_4
    clear hw
    obtain ⟨hP9, hD9⟩ := sub2 hP hD (ws' := []) [] (by decide +kernel) rfl
    exact W.lret (v := r_3) hx hb hr (fun tZ ht hW => ⟨⟨r_3, (), rfl, (show ¬ r_3.toInt = 0 from by omega), by rw [ht]; exact hP9, va_K.moved hW.alike hK, hD9⟩, hS.F ht⟩) hS.2.2 dX12_common_17
  · skip
    have zh_1 : p1.toInt = 0 := zL_eq h_1 rfl rfl
    refine lv_lload_n hx hb dX12_common_6 rfl (lv_at hl 0 rfl) ?_
    refine lv_goto (tgt := 17) hx hb dX12_common_7 (by decide) ?_
    obtain ⟨hP9, hD9⟩ := sub2 hP hD (ws' := []) [] (by decide +kernel) rfl
    exact W.lret (v := p0) hx hb hr (fun tZ ht hW => ⟨⟨p0, (), rfl, (show ¬ p0.toInt = 0 from by omega), by rw [ht]; exact hP9, va_K.moved hW.alike hK, hD9⟩, hS.F ht⟩) hS.2.2 dX12_common_17
set_option maxHeartbeats 4000000 in
set_option maxRecDepth 100000 in
theorem c_X12_common_53 (l : Launch) (D : va_G) (k : Nat → ClassId) (p0 : Int64) (p1 : Int64) (sz : Nat) (hk : 3 * (p0.toInt.natAbs : Int) + 2 * (p1.toInt.natAbs : Int) ≤ 11782400440 ∧ p1.toInt.natAbs ≤ p0.toInt.natAbs ∧ ¬ p0.toInt = 0) : Met l yX12_common (ww yX12_common cX12_common 4 (some .long)) ({ frames := 53, cells := 0, slots := 0, locals := 1219 }) (Pre0 D k [] sz [.long p0, .long p1]) (va_Ql (fun (r : Int64) (_ : Unit) => (¬ r.toInt = 0)) (fun (_ : Unit) tZ => Bw D k (va_A [] sz) [] tZ) (va_A [] sz)) 0 0 (va_A [] sz) := by
  refine Met.ofW (cc := cX12_common) (maxL := 4) (ret := (some .long)) (by decide +kernel) rfl ?_
  intro p e s m args below meth c s₁ B hml hv
  obtain ⟨rfl, hsz, hP, hK, hD0, hN⟩ := hv
  have hx := B.exec
  have hb := B.bytes
  have hr := B.returns
  have hts : ∀ w ∈ TT, w.before _ s = true := fun w h => atoms_spec (ws := ww yX12_common cX12_common 4 (some .long)) B.pre w (List.mem_cons_of_mem _ h)
  have hown : s.vm.findClass RX12 = some m.cls := findClass_of_methodNamed B.named
  have hlocks := B.notSynchronized
  subst hsz
  have hD := hD0.self (sz := s.heap.size)
  generalize hAe : va_A [] s.heap.size = A at hD ⊢
  have hA : ∀ q : Nat, s.heap.size ≤ q → A q := fun q h => by rw [← hAe]; exact Or.inr h
  have hS : va_S A s.heap s.heap [] := va_S.rf
  have hl := lv_entry ([.long p0, .long p1]) (n := 4) (Nat.le_of_ble_eq_true rfl)
  rw [lg_entry_eq]
  generalize (lg_sl ([.long p0, .long p1]) ++ List.replicate (4 - (lg_sl ([.long p0, .long p1])).length) Slot.unset).toArray = ls at hl ⊢
  have hl : lv_has ls 4 [(0, .long p0), (2, .long p1)] := hl
  refine lv_lload_n hx hb dX12_common_0 rfl (lv_at hl 1 rfl) ?_
  refine lv_lconst (v := 0) hx hb dX12_common_1 (by decide) ?_
  refine W.lcmp hx hb dX12_common_2 ?_
  refine lv_if_ne (tgt := 10) hx hb dX12_common_3 (by decide) (fun h_1 => ?_) (fun h_1 => ?_)
  · skip
    have zh_1 : ¬ p1.toInt = 0 := zL_ne h_1 rfl rfl
    refine lv_lload_n hx hb dX12_common_10 rfl (lv_at hl 1 rfl) ?_
    refine lv_lload_n hx hb dX12_common_11 rfl (lv_at hl 0 rfl) ?_
    refine lv_lload_n hx hb dX12_common_12 rfl (lv_at hl 1 rfl) ?_
    refine lv_lrem hx hb dX12_common_13 (fun q9 => by have := congrArg (fun v : Int64 => v.toInt) q9; simp at this; omega) ?_
    refine lv_topl (fun x_2 ex_2 => ?_)
    have zx_2 := zl_rem ex_2 (by omega)
    obtain ⟨hPc, hDc, hFc⟩ := sub3 hP hD hS hA (ws' := []) [] (by decide +kernel) rfl
    refine va_calll (va_runS (As := [.long p1, .long x_2]) (rest := []) ⟨hx, hb, hml, hown, hts⟩ (c_X12_common_52 l D k p1 x_2 s.heap.size (show 3 * (p1.toInt.natAbs : Int) + 2 * (x_2.toInt.natAbs : Int) ≤ 7854933626 ∧ x_2.toInt.natAbs ≤ p1.toInt.natAbs ∧ ¬ p1.toInt = 0 from by omega)) (va_cwS 2 hts (gS tw_8_192 tw_8_193 tw_1_13 tw_8_194) rfl rfl rfl hdS_X12_common ⟨Nat.le_of_ble_eq_true rfl, Nat.le_of_ble_eq_true rfl⟩) (cz_S hK hPc hDc hN [.long p1, .long x_2]) rfl rfl hl.1 rfl (lv_room (Nat.le_of_ble_eq_true rfl)) dX12_common_14 ⟨Nat.le_of_ble_eq_true rfl, Nat.le_of_ble_eq_true rfl⟩) hS (fun q _ h => hFc q h) hFc (fun r_3 uZ tZ H1 locs ht hvm hw hB hz1 hk1 hS => ?_)
    obtain ⟨hP1, hK1, hD1⟩ := hB
    rw [ht] at hP1
    obtain ⟨hP, hD⟩ := va_join (wr := []) (w1 := []) hP hD [] [] rfl rfl (by decide +kernel) (by decide +kernel) hk1 hFc hP1 hD1
    clear hK1 hP1 hD1 hPc hDc hFc
    clear hk1 hz1 ht hvm
    have hP : va_P D vwCl [] H1 := hP
    have hD : va_D A [] := hD
    generalize H1 = H at hP hS ⊢
    have hw_4 : (¬ r_3.toInt = 0) := hw
    have hw_5 := hw_4
    clear hw
    obtain ⟨hP9, hD9⟩ := sub2 hP hD (ws' := []) [] (by decide +kernel) rfl
    exact W.lret (v := r_3) hx hb hr (fun tZ ht hW => ⟨⟨r_3, (), rfl, (show ¬ r_3.toInt = 0 from by omega), by rw [ht]; exact hP9, va_K.moved hW.alike hK, hD9⟩, hS.F ht⟩) hS.2.2 dX12_common_17
  · skip
    have zh_1 : p1.toInt = 0 := zL_eq h_1 rfl rfl
    refine lv_lload_n hx hb dX12_common_6 rfl (lv_at hl 0 rfl) ?_
    refine lv_goto (tgt := 17) hx hb dX12_common_7 (by decide) ?_
    obtain ⟨hP9, hD9⟩ := sub2 hP hD (ws' := []) [] (by decide +kernel) rfl
    exact W.lret (v := p0) hx hb hr (fun tZ ht hW => ⟨⟨p0, (), rfl, (show ¬ p0.toInt = 0 from by omega), by rw [ht]; exact hP9, va_K.moved hW.alike hK, hD9⟩, hS.F ht⟩) hS.2.2 dX12_common_17
set_option maxHeartbeats 4000000 in
set_option maxRecDepth 100000 in
theorem c_X12_common_54 (l : Launch) (D : va_G) (k : Nat → ClassId) (p0 : Int64) (p1 : Int64) (sz : Nat) (hk : 3 * (p0.toInt.natAbs : Int) + 2 * (p1.toInt.natAbs : Int) ≤ 17673600661 ∧ p1.toInt.natAbs ≤ p0.toInt.natAbs ∧ ¬ p0.toInt = 0) : Met l yX12_common (ww yX12_common cX12_common 4 (some .long)) ({ frames := 54, cells := 0, slots := 0, locals := 1242 }) (Pre0 D k [] sz [.long p0, .long p1]) (va_Ql (fun (r : Int64) (_ : Unit) => (¬ r.toInt = 0)) (fun (_ : Unit) tZ => Bw D k (va_A [] sz) [] tZ) (va_A [] sz)) 0 0 (va_A [] sz) := by
  refine Met.ofW (cc := cX12_common) (maxL := 4) (ret := (some .long)) (by decide +kernel) rfl ?_
  intro p e s m args below meth c s₁ B hml hv
  obtain ⟨rfl, hsz, hP, hK, hD0, hN⟩ := hv
  have hx := B.exec
  have hb := B.bytes
  have hr := B.returns
  have hts : ∀ w ∈ TT, w.before _ s = true := fun w h => atoms_spec (ws := ww yX12_common cX12_common 4 (some .long)) B.pre w (List.mem_cons_of_mem _ h)
  have hown : s.vm.findClass RX12 = some m.cls := findClass_of_methodNamed B.named
  have hlocks := B.notSynchronized
  subst hsz
  have hD := hD0.self (sz := s.heap.size)
  generalize hAe : va_A [] s.heap.size = A at hD ⊢
  have hA : ∀ q : Nat, s.heap.size ≤ q → A q := fun q h => by rw [← hAe]; exact Or.inr h
  have hS : va_S A s.heap s.heap [] := va_S.rf
  have hl := lv_entry ([.long p0, .long p1]) (n := 4) (Nat.le_of_ble_eq_true rfl)
  rw [lg_entry_eq]
  generalize (lg_sl ([.long p0, .long p1]) ++ List.replicate (4 - (lg_sl ([.long p0, .long p1])).length) Slot.unset).toArray = ls at hl ⊢
  have hl : lv_has ls 4 [(0, .long p0), (2, .long p1)] := hl
  refine lv_lload_n hx hb dX12_common_0 rfl (lv_at hl 1 rfl) ?_
  refine lv_lconst (v := 0) hx hb dX12_common_1 (by decide) ?_
  refine W.lcmp hx hb dX12_common_2 ?_
  refine lv_if_ne (tgt := 10) hx hb dX12_common_3 (by decide) (fun h_1 => ?_) (fun h_1 => ?_)
  · skip
    have zh_1 : ¬ p1.toInt = 0 := zL_ne h_1 rfl rfl
    refine lv_lload_n hx hb dX12_common_10 rfl (lv_at hl 1 rfl) ?_
    refine lv_lload_n hx hb dX12_common_11 rfl (lv_at hl 0 rfl) ?_
    refine lv_lload_n hx hb dX12_common_12 rfl (lv_at hl 1 rfl) ?_
    refine lv_lrem hx hb dX12_common_13 (fun q9 => by have := congrArg (fun v : Int64 => v.toInt) q9; simp at this; omega) ?_
    refine lv_topl (fun x_2 ex_2 => ?_)
    have zx_2 := zl_rem ex_2 (by omega)
    obtain ⟨hPc, hDc, hFc⟩ := sub3 hP hD hS hA (ws' := []) [] (by decide +kernel) rfl
    refine va_calll (va_runS (As := [.long p1, .long x_2]) (rest := []) ⟨hx, hb, hml, hown, hts⟩ (c_X12_common_53 l D k p1 x_2 s.heap.size (show 3 * (p1.toInt.natAbs : Int) + 2 * (x_2.toInt.natAbs : Int) ≤ 11782400440 ∧ x_2.toInt.natAbs ≤ p1.toInt.natAbs ∧ ¬ p1.toInt = 0 from by omega)) (va_cwS 2 hts (gS tw_8_192 tw_8_193 tw_1_13 tw_8_194) rfl rfl rfl hdS_X12_common ⟨Nat.le_of_ble_eq_true rfl, Nat.le_of_ble_eq_true rfl⟩) (cz_S hK hPc hDc hN [.long p1, .long x_2]) rfl rfl hl.1 rfl (lv_room (Nat.le_of_ble_eq_true rfl)) dX12_common_14 ⟨Nat.le_of_ble_eq_true rfl, Nat.le_of_ble_eq_true rfl⟩) hS (fun q _ h => hFc q h) hFc (fun r_3 uZ tZ H1 locs ht hvm hw hB hz1 hk1 hS => ?_)
    obtain ⟨hP1, hK1, hD1⟩ := hB
    rw [ht] at hP1
    obtain ⟨hP, hD⟩ := va_join (wr := []) (w1 := []) hP hD [] [] rfl rfl (by decide +kernel) (by decide +kernel) hk1 hFc hP1 hD1
    clear hK1 hP1 hD1 hPc hDc hFc
    clear hk1 hz1 ht hvm
    have hP : va_P D vwCl [] H1 := hP
    have hD : va_D A [] := hD
    generalize H1 = H at hP hS ⊢
    have hw_4 : (¬ r_3.toInt = 0) := hw
    have hw_5 := hw_4
    clear hw
    obtain ⟨hP9, hD9⟩ := sub2 hP hD (ws' := []) [] (by decide +kernel) rfl
    exact W.lret (v := r_3) hx hb hr (fun tZ ht hW => ⟨⟨r_3, (), rfl, (show ¬ r_3.toInt = 0 from by omega), by rw [ht]; exact hP9, va_K.moved hW.alike hK, hD9⟩, hS.F ht⟩) hS.2.2 dX12_common_17
  · skip
    have zh_1 : p1.toInt = 0 := zL_eq h_1 rfl rfl
    refine lv_lload_n hx hb dX12_common_6 rfl (lv_at hl 0 rfl) ?_
    refine lv_goto (tgt := 17) hx hb dX12_common_7 (by decide) ?_
    obtain ⟨hP9, hD9⟩ := sub2 hP hD (ws' := []) [] (by decide +kernel) rfl
    exact W.lret (v := p0) hx hb hr (fun tZ ht hW => ⟨⟨p0, (), rfl, (show ¬ p0.toInt = 0 from by omega), by rw [ht]; exact hP9, va_K.moved hW.alike hK, hD9⟩, hS.F ht⟩) hS.2.2 dX12_common_17
set_option maxHeartbeats 4000000 in
set_option maxRecDepth 100000 in
theorem c_X12_common_55 (l : Launch) (D : va_G) (k : Nat → ClassId) (p0 : Int64) (p1 : Int64) (sz : Nat) (hk : 3 * (p0.toInt.natAbs : Int) + 2 * (p1.toInt.natAbs : Int) ≤ 26510400992 ∧ p1.toInt.natAbs ≤ p0.toInt.natAbs ∧ ¬ p0.toInt = 0) : Met l yX12_common (ww yX12_common cX12_common 4 (some .long)) ({ frames := 55, cells := 0, slots := 0, locals := 1265 }) (Pre0 D k [] sz [.long p0, .long p1]) (va_Ql (fun (r : Int64) (_ : Unit) => (¬ r.toInt = 0)) (fun (_ : Unit) tZ => Bw D k (va_A [] sz) [] tZ) (va_A [] sz)) 0 0 (va_A [] sz) := by
  refine Met.ofW (cc := cX12_common) (maxL := 4) (ret := (some .long)) (by decide +kernel) rfl ?_
  intro p e s m args below meth c s₁ B hml hv
  obtain ⟨rfl, hsz, hP, hK, hD0, hN⟩ := hv
  have hx := B.exec
  have hb := B.bytes
  have hr := B.returns
  have hts : ∀ w ∈ TT, w.before _ s = true := fun w h => atoms_spec (ws := ww yX12_common cX12_common 4 (some .long)) B.pre w (List.mem_cons_of_mem _ h)
  have hown : s.vm.findClass RX12 = some m.cls := findClass_of_methodNamed B.named
  have hlocks := B.notSynchronized
  subst hsz
  have hD := hD0.self (sz := s.heap.size)
  generalize hAe : va_A [] s.heap.size = A at hD ⊢
  have hA : ∀ q : Nat, s.heap.size ≤ q → A q := fun q h => by rw [← hAe]; exact Or.inr h
  have hS : va_S A s.heap s.heap [] := va_S.rf
  have hl := lv_entry ([.long p0, .long p1]) (n := 4) (Nat.le_of_ble_eq_true rfl)
  rw [lg_entry_eq]
  generalize (lg_sl ([.long p0, .long p1]) ++ List.replicate (4 - (lg_sl ([.long p0, .long p1])).length) Slot.unset).toArray = ls at hl ⊢
  have hl : lv_has ls 4 [(0, .long p0), (2, .long p1)] := hl
  refine lv_lload_n hx hb dX12_common_0 rfl (lv_at hl 1 rfl) ?_
  refine lv_lconst (v := 0) hx hb dX12_common_1 (by decide) ?_
  refine W.lcmp hx hb dX12_common_2 ?_
  refine lv_if_ne (tgt := 10) hx hb dX12_common_3 (by decide) (fun h_1 => ?_) (fun h_1 => ?_)
  · skip
    have zh_1 : ¬ p1.toInt = 0 := zL_ne h_1 rfl rfl
    refine lv_lload_n hx hb dX12_common_10 rfl (lv_at hl 1 rfl) ?_
    refine lv_lload_n hx hb dX12_common_11 rfl (lv_at hl 0 rfl) ?_
    refine lv_lload_n hx hb dX12_common_12 rfl (lv_at hl 1 rfl) ?_
    refine lv_lrem hx hb dX12_common_13 (fun q9 => by have := congrArg (fun v : Int64 => v.toInt) q9; simp at this; omega) ?_
    refine lv_topl (fun x_2 ex_2 => ?_)
    have zx_2 := zl_rem ex_2 (by omega)
    obtain ⟨hPc, hDc, hFc⟩ := sub3 hP hD hS hA (ws' := []) [] (by decide +kernel) rfl
    refine va_calll (va_runS (As := [.long p1, .long x_2]) (rest := []) ⟨hx, hb, hml, hown, hts⟩ (c_X12_common_54 l D k p1 x_2 s.heap.size (show 3 * (p1.toInt.natAbs : Int) + 2 * (x_2.toInt.natAbs : Int) ≤ 17673600661 ∧ x_2.toInt.natAbs ≤ p1.toInt.natAbs ∧ ¬ p1.toInt = 0 from by omega)) (va_cwS 2 hts (gS tw_8_192 tw_8_193 tw_1_13 tw_8_194) rfl rfl rfl hdS_X12_common ⟨Nat.le_of_ble_eq_true rfl, Nat.le_of_ble_eq_true rfl⟩) (cz_S hK hPc hDc hN [.long p1, .long x_2]) rfl rfl hl.1 rfl (lv_room (Nat.le_of_ble_eq_true rfl)) dX12_common_14 ⟨Nat.le_of_ble_eq_true rfl, Nat.le_of_ble_eq_true rfl⟩) hS (fun q _ h => hFc q h) hFc (fun r_3 uZ tZ H1 locs ht hvm hw hB hz1 hk1 hS => ?_)
    obtain ⟨hP1, hK1, hD1⟩ := hB
    rw [ht] at hP1
    obtain ⟨hP, hD⟩ := va_join (wr := []) (w1 := []) hP hD [] [] rfl rfl (by decide +kernel) (by decide +kernel) hk1 hFc hP1 hD1
    clear hK1 hP1 hD1 hPc hDc hFc
    clear hk1 hz1 ht hvm
    have hP : va_P D vwCl [] H1 := hP
    have hD : va_D A [] := hD
    generalize H1 = H at hP hS ⊢
    have hw_4 : (¬ r_3.toInt = 0) := hw
    have hw_5 := hw_4
    clear hw
    obtain ⟨hP9, hD9⟩ := sub2 hP hD (ws' := []) [] (by decide +kernel) rfl
    exact W.lret (v := r_3) hx hb hr (fun tZ ht hW => ⟨⟨r_3, (), rfl, (show ¬ r_3.toInt = 0 from by omega), by rw [ht]; exact hP9, va_K.moved hW.alike hK, hD9⟩, hS.F ht⟩) hS.2.2 dX12_common_17
  · skip
    have zh_1 : p1.toInt = 0 := zL_eq h_1 rfl rfl
    refine lv_lload_n hx hb dX12_common_6 rfl (lv_at hl 0 rfl) ?_
    refine lv_goto (tgt := 17) hx hb dX12_common_7 (by decide) ?_
    obtain ⟨hP9, hD9⟩ := sub2 hP hD (ws' := []) [] (by decide +kernel) rfl
    exact W.lret (v := p0) hx hb hr (fun tZ ht hW => ⟨⟨p0, (), rfl, (show ¬ p0.toInt = 0 from by omega), by rw [ht]; exact hP9, va_K.moved hW.alike hK, hD9⟩, hS.F ht⟩) hS.2.2 dX12_common_17
set_option maxHeartbeats 4000000 in
set_option maxRecDepth 100000 in
theorem c_X12_common_56 (l : Launch) (D : va_G) (k : Nat → ClassId) (p0 : Int64) (p1 : Int64) (sz : Nat) (hk : 3 * (p0.toInt.natAbs : Int) + 2 * (p1.toInt.natAbs : Int) ≤ 39765601489 ∧ p1.toInt.natAbs ≤ p0.toInt.natAbs ∧ ¬ p0.toInt = 0) : Met l yX12_common (ww yX12_common cX12_common 4 (some .long)) ({ frames := 56, cells := 0, slots := 0, locals := 1288 }) (Pre0 D k [] sz [.long p0, .long p1]) (va_Ql (fun (r : Int64) (_ : Unit) => (¬ r.toInt = 0)) (fun (_ : Unit) tZ => Bw D k (va_A [] sz) [] tZ) (va_A [] sz)) 0 0 (va_A [] sz) := by
  refine Met.ofW (cc := cX12_common) (maxL := 4) (ret := (some .long)) (by decide +kernel) rfl ?_
  intro p e s m args below meth c s₁ B hml hv
  obtain ⟨rfl, hsz, hP, hK, hD0, hN⟩ := hv
  have hx := B.exec
  have hb := B.bytes
  have hr := B.returns
  have hts : ∀ w ∈ TT, w.before _ s = true := fun w h => atoms_spec (ws := ww yX12_common cX12_common 4 (some .long)) B.pre w (List.mem_cons_of_mem _ h)
  have hown : s.vm.findClass RX12 = some m.cls := findClass_of_methodNamed B.named
  have hlocks := B.notSynchronized
  subst hsz
  have hD := hD0.self (sz := s.heap.size)
  generalize hAe : va_A [] s.heap.size = A at hD ⊢
  have hA : ∀ q : Nat, s.heap.size ≤ q → A q := fun q h => by rw [← hAe]; exact Or.inr h
  have hS : va_S A s.heap s.heap [] := va_S.rf
  have hl := lv_entry ([.long p0, .long p1]) (n := 4) (Nat.le_of_ble_eq_true rfl)
  rw [lg_entry_eq]
  generalize (lg_sl ([.long p0, .long p1]) ++ List.replicate (4 - (lg_sl ([.long p0, .long p1])).length) Slot.unset).toArray = ls at hl ⊢
  have hl : lv_has ls 4 [(0, .long p0), (2, .long p1)] := hl
  refine lv_lload_n hx hb dX12_common_0 rfl (lv_at hl 1 rfl) ?_
  refine lv_lconst (v := 0) hx hb dX12_common_1 (by decide) ?_
  refine W.lcmp hx hb dX12_common_2 ?_
  refine lv_if_ne (tgt := 10) hx hb dX12_common_3 (by decide) (fun h_1 => ?_) (fun h_1 => ?_)
  · skip
    have zh_1 : ¬ p1.toInt = 0 := zL_ne h_1 rfl rfl
    refine lv_lload_n hx hb dX12_common_10 rfl (lv_at hl 1 rfl) ?_
    refine lv_lload_n hx hb dX12_common_11 rfl (lv_at hl 0 rfl) ?_
    refine lv_lload_n hx hb dX12_common_12 rfl (lv_at hl 1 rfl) ?_
    refine lv_lrem hx hb dX12_common_13 (fun q9 => by have := congrArg (fun v : Int64 => v.toInt) q9; simp at this; omega) ?_
    refine lv_topl (fun x_2 ex_2 => ?_)
    have zx_2 := zl_rem ex_2 (by omega)
    obtain ⟨hPc, hDc, hFc⟩ := sub3 hP hD hS hA (ws' := []) [] (by decide +kernel) rfl
    refine va_calll (va_runS (As := [.long p1, .long x_2]) (rest := []) ⟨hx, hb, hml, hown, hts⟩ (c_X12_common_55 l D k p1 x_2 s.heap.size (show 3 * (p1.toInt.natAbs : Int) + 2 * (x_2.toInt.natAbs : Int) ≤ 26510400992 ∧ x_2.toInt.natAbs ≤ p1.toInt.natAbs ∧ ¬ p1.toInt = 0 from by omega)) (va_cwS 2 hts (gS tw_8_192 tw_8_193 tw_1_13 tw_8_194) rfl rfl rfl hdS_X12_common ⟨Nat.le_of_ble_eq_true rfl, Nat.le_of_ble_eq_true rfl⟩) (cz_S hK hPc hDc hN [.long p1, .long x_2]) rfl rfl hl.1 rfl (lv_room (Nat.le_of_ble_eq_true rfl)) dX12_common_14 ⟨Nat.le_of_ble_eq_true rfl, Nat.le_of_ble_eq_true rfl⟩) hS (fun q _ h => hFc q h) hFc (fun r_3 uZ tZ H1 locs ht hvm hw hB hz1 hk1 hS => ?_)
    obtain ⟨hP1, hK1, hD1⟩ := hB
    rw [ht] at hP1
    obtain ⟨hP, hD⟩ := va_join (wr := []) (w1 := []) hP hD [] [] rfl rfl (by decide +kernel) (by decide +kernel) hk1 hFc hP1 hD1
    clear hK1 hP1 hD1 hPc hDc hFc
    clear hk1 hz1 ht hvm
    have hP : va_P D vwCl [] H1 := hP
    have hD : va_D A [] := hD
    generalize H1 = H at hP hS ⊢
    have hw_4 : (¬ r_3.toInt = 0) := hw
    have hw_5 := hw_4
    clear hw
    obtain ⟨hP9, hD9⟩ := sub2 hP hD (ws' := []) [] (by decide +kernel) rfl
    exact W.lret (v := r_3) hx hb hr (fun tZ ht hW => ⟨⟨r_3, (), rfl, (show ¬ r_3.toInt = 0 from by omega), by rw [ht]; exact hP9, va_K.moved hW.alike hK, hD9⟩, hS.F ht⟩) hS.2.2 dX12_common_17
  · skip
    have zh_1 : p1.toInt = 0 := zL_eq h_1 rfl rfl
    refine lv_lload_n hx hb dX12_common_6 rfl (lv_at hl 0 rfl) ?_
    refine lv_goto (tgt := 17) hx hb dX12_common_7 (by decide) ?_
    obtain ⟨hP9, hD9⟩ := sub2 hP hD (ws' := []) [] (by decide +kernel) rfl
    exact W.lret (v := p0) hx hb hr (fun tZ ht hW => ⟨⟨p0, (), rfl, (show ¬ p0.toInt = 0 from by omega), by rw [ht]; exact hP9, va_K.moved hW.alike hK, hD9⟩, hS.F ht⟩) hS.2.2 dX12_common_17
set_option maxHeartbeats 4000000 in
set_option maxRecDepth 100000 in
theorem c_X12_common_57 (l : Launch) (D : va_G) (k : Nat → ClassId) (p0 : Int64) (p1 : Int64) (sz : Nat) (hk : 3 * (p0.toInt.natAbs : Int) + 2 * (p1.toInt.natAbs : Int) ≤ 59648402234 ∧ p1.toInt.natAbs ≤ p0.toInt.natAbs ∧ ¬ p0.toInt = 0) : Met l yX12_common (ww yX12_common cX12_common 4 (some .long)) ({ frames := 57, cells := 0, slots := 0, locals := 1311 }) (Pre0 D k [] sz [.long p0, .long p1]) (va_Ql (fun (r : Int64) (_ : Unit) => (¬ r.toInt = 0)) (fun (_ : Unit) tZ => Bw D k (va_A [] sz) [] tZ) (va_A [] sz)) 0 0 (va_A [] sz) := by
  refine Met.ofW (cc := cX12_common) (maxL := 4) (ret := (some .long)) (by decide +kernel) rfl ?_
  intro p e s m args below meth c s₁ B hml hv
  obtain ⟨rfl, hsz, hP, hK, hD0, hN⟩ := hv
  have hx := B.exec
  have hb := B.bytes
  have hr := B.returns
  have hts : ∀ w ∈ TT, w.before _ s = true := fun w h => atoms_spec (ws := ww yX12_common cX12_common 4 (some .long)) B.pre w (List.mem_cons_of_mem _ h)
  have hown : s.vm.findClass RX12 = some m.cls := findClass_of_methodNamed B.named
  have hlocks := B.notSynchronized
  subst hsz
  have hD := hD0.self (sz := s.heap.size)
  generalize hAe : va_A [] s.heap.size = A at hD ⊢
  have hA : ∀ q : Nat, s.heap.size ≤ q → A q := fun q h => by rw [← hAe]; exact Or.inr h
  have hS : va_S A s.heap s.heap [] := va_S.rf
  have hl := lv_entry ([.long p0, .long p1]) (n := 4) (Nat.le_of_ble_eq_true rfl)
  rw [lg_entry_eq]
  generalize (lg_sl ([.long p0, .long p1]) ++ List.replicate (4 - (lg_sl ([.long p0, .long p1])).length) Slot.unset).toArray = ls at hl ⊢
  have hl : lv_has ls 4 [(0, .long p0), (2, .long p1)] := hl
  refine lv_lload_n hx hb dX12_common_0 rfl (lv_at hl 1 rfl) ?_
  refine lv_lconst (v := 0) hx hb dX12_common_1 (by decide) ?_
  refine W.lcmp hx hb dX12_common_2 ?_
  refine lv_if_ne (tgt := 10) hx hb dX12_common_3 (by decide) (fun h_1 => ?_) (fun h_1 => ?_)
  · skip
    have zh_1 : ¬ p1.toInt = 0 := zL_ne h_1 rfl rfl
    refine lv_lload_n hx hb dX12_common_10 rfl (lv_at hl 1 rfl) ?_
    refine lv_lload_n hx hb dX12_common_11 rfl (lv_at hl 0 rfl) ?_
    refine lv_lload_n hx hb dX12_common_12 rfl (lv_at hl 1 rfl) ?_
    refine lv_lrem hx hb dX12_common_13 (fun q9 => by have := congrArg (fun v : Int64 => v.toInt) q9; simp at this; omega) ?_
    refine lv_topl (fun x_2 ex_2 => ?_)
    have zx_2 := zl_rem ex_2 (by omega)
    obtain ⟨hPc, hDc, hFc⟩ := sub3 hP hD hS hA (ws' := []) [] (by decide +kernel) rfl
    refine va_calll (va_runS (As := [.long p1, .long x_2]) (rest := []) ⟨hx, hb, hml, hown, hts⟩ (c_X12_common_56 l D k p1 x_2 s.heap.size (show 3 * (p1.toInt.natAbs : Int) + 2 * (x_2.toInt.natAbs : Int) ≤ 39765601489 ∧ x_2.toInt.natAbs ≤ p1.toInt.natAbs ∧ ¬ p1.toInt = 0 from by omega)) (va_cwS 2 hts (gS tw_8_192 tw_8_193 tw_1_13 tw_8_194) rfl rfl rfl hdS_X12_common ⟨Nat.le_of_ble_eq_true rfl, Nat.le_of_ble_eq_true rfl⟩) (cz_S hK hPc hDc hN [.long p1, .long x_2]) rfl rfl hl.1 rfl (lv_room (Nat.le_of_ble_eq_true rfl)) dX12_common_14 ⟨Nat.le_of_ble_eq_true rfl, Nat.le_of_ble_eq_true rfl⟩) hS (fun q _ h => hFc q h) hFc (fun r_3 uZ tZ H1 locs ht hvm hw hB hz1 hk1 hS => ?_)
    obtain ⟨hP1, hK1, hD1⟩ := hB
    rw [ht] at hP1
    obtain ⟨hP, hD⟩ := va_join (wr := []) (w1 := []) hP hD [] [] rfl rfl (by decide +kernel) (by decide +kernel) hk1 hFc hP1 hD1
    clear hK1 hP1 hD1 hPc hDc hFc
    clear hk1 hz1 ht hvm
    have hP : va_P D vwCl [] H1 := hP
    have hD : va_D A [] := hD
    generalize H1 = H at hP hS ⊢
    have hw_4 : (¬ r_3.toInt = 0) := hw
    have hw_5 := hw_4
    clear hw
    obtain ⟨hP9, hD9⟩ := sub2 hP hD (ws' := []) [] (by decide +kernel) rfl
    exact W.lret (v := r_3) hx hb hr (fun tZ ht hW => ⟨⟨r_3, (), rfl, (show ¬ r_3.toInt = 0 from by omega), by rw [ht]; exact hP9, va_K.moved hW.alike hK, hD9⟩, hS.F ht⟩) hS.2.2 dX12_common_17
  · skip
    have zh_1 : p1.toInt = 0 := zL_eq h_1 rfl rfl
    refine lv_lload_n hx hb dX12_common_6 rfl (lv_at hl 0 rfl) ?_
    refine lv_goto (tgt := 17) hx hb dX12_common_7 (by decide) ?_
    obtain ⟨hP9, hD9⟩ := sub2 hP hD (ws' := []) [] (by decide +kernel) rfl
    exact W.lret (v := p0) hx hb hr (fun tZ ht hW => ⟨⟨p0, (), rfl, (show ¬ p0.toInt = 0 from by omega), by rw [ht]; exact hP9, va_K.moved hW.alike hK, hD9⟩, hS.F ht⟩) hS.2.2 dX12_common_17
set_option maxHeartbeats 4000000 in
set_option maxRecDepth 100000 in
theorem c_X12_common_58 (l : Launch) (D : va_G) (k : Nat → ClassId) (p0 : Int64) (p1 : Int64) (sz : Nat) (hk : 1 ≤ p1.toInt ∧ p1.toInt ≤ 10000000000) : Met l yX12_common (ww yX12_common cX12_common 4 (some .long)) ({ frames := 58, cells := 0, slots := 0, locals := 1334 }) (Pre0 D k [] sz [.long p0, .long p1]) (va_Ql (fun (r : Int64) (_ : Unit) => (¬ r.toInt = 0)) (fun (_ : Unit) tZ => Bw D k (va_A [] sz) [] tZ) (va_A [] sz)) 0 0 (va_A [] sz) := by
  refine Met.ofW (cc := cX12_common) (maxL := 4) (ret := (some .long)) (by decide +kernel) rfl ?_
  intro p e s m args below meth c s₁ B hml hv
  obtain ⟨rfl, hsz, hP, hK, hD0, hN⟩ := hv
  have hx := B.exec
  have hb := B.bytes
  have hr := B.returns
  have hts : ∀ w ∈ TT, w.before _ s = true := fun w h => atoms_spec (ws := ww yX12_common cX12_common 4 (some .long)) B.pre w (List.mem_cons_of_mem _ h)
  have hown : s.vm.findClass RX12 = some m.cls := findClass_of_methodNamed B.named
  have hlocks := B.notSynchronized
  subst hsz
  have hD := hD0.self (sz := s.heap.size)
  generalize hAe : va_A [] s.heap.size = A at hD ⊢
  have hA : ∀ q : Nat, s.heap.size ≤ q → A q := fun q h => by rw [← hAe]; exact Or.inr h
  have hS : va_S A s.heap s.heap [] := va_S.rf
  have hl := lv_entry ([.long p0, .long p1]) (n := 4) (Nat.le_of_ble_eq_true rfl)
  rw [lg_entry_eq]
  generalize (lg_sl ([.long p0, .long p1]) ++ List.replicate (4 - (lg_sl ([.long p0, .long p1])).length) Slot.unset).toArray = ls at hl ⊢
  have hl : lv_has ls 4 [(0, .long p0), (2, .long p1)] := hl
  refine lv_lload_n hx hb dX12_common_0 rfl (lv_at hl 1 rfl) ?_
  refine lv_lconst (v := 0) hx hb dX12_common_1 (by decide) ?_
  refine W.lcmp hx hb dX12_common_2 ?_
  refine lv_if_ne (tgt := 10) hx hb dX12_common_3 (by decide) (fun h_1 => ?_) (fun h_1 => ?_)
  · skip
    have zh_1 : ¬ p1.toInt = 0 := zL_ne h_1 rfl rfl
    refine lv_lload_n hx hb dX12_common_10 rfl (lv_at hl 1 rfl) ?_
    refine lv_lload_n hx hb dX12_common_11 rfl (lv_at hl 0 rfl) ?_
    refine lv_lload_n hx hb dX12_common_12 rfl (lv_at hl 1 rfl) ?_
    refine lv_lrem hx hb dX12_common_13 (fun q9 => by have := congrArg (fun v : Int64 => v.toInt) q9; simp at this; omega) ?_
    refine lv_topl (fun x_2 ex_2 => ?_)
    have zx_2 := zl_rem ex_2 (by omega)
    obtain ⟨hPc, hDc, hFc⟩ := sub3 hP hD hS hA (ws' := []) [] (by decide +kernel) rfl
    refine va_calll (va_runS (As := [.long p1, .long x_2]) (rest := []) ⟨hx, hb, hml, hown, hts⟩ (c_X12_common_57 l D k p1 x_2 s.heap.size (show 3 * (p1.toInt.natAbs : Int) + 2 * (x_2.toInt.natAbs : Int) ≤ 59648402234 ∧ x_2.toInt.natAbs ≤ p1.toInt.natAbs ∧ ¬ p1.toInt = 0 from by omega)) (va_cwS 2 hts (gS tw_8_192 tw_8_193 tw_1_13 tw_8_194) rfl rfl rfl hdS_X12_common ⟨Nat.le_of_ble_eq_true rfl, Nat.le_of_ble_eq_true rfl⟩) (cz_S hK hPc hDc hN [.long p1, .long x_2]) rfl rfl hl.1 rfl (lv_room (Nat.le_of_ble_eq_true rfl)) dX12_common_14 ⟨Nat.le_of_ble_eq_true rfl, Nat.le_of_ble_eq_true rfl⟩) hS (fun q _ h => hFc q h) hFc (fun r_3 uZ tZ H1 locs ht hvm hw hB hz1 hk1 hS => ?_)
    obtain ⟨hP1, hK1, hD1⟩ := hB
    rw [ht] at hP1
    obtain ⟨hP, hD⟩ := va_join (wr := []) (w1 := []) hP hD [] [] rfl rfl (by decide +kernel) (by decide +kernel) hk1 hFc hP1 hD1
    clear hK1 hP1 hD1 hPc hDc hFc
    clear hk1 hz1 ht hvm
    have hP : va_P D vwCl [] H1 := hP
    have hD : va_D A [] := hD
    generalize H1 = H at hP hS ⊢
    have hw_4 : (¬ r_3.toInt = 0) := hw
    have hw_5 := hw_4
    clear hw
    obtain ⟨hP9, hD9⟩ := sub2 hP hD (ws' := []) [] (by decide +kernel) rfl
    exact W.lret (v := r_3) hx hb hr (fun tZ ht hW => ⟨⟨r_3, (), rfl, (show ¬ r_3.toInt = 0 from by omega), by rw [ht]; exact hP9, va_K.moved hW.alike hK, hD9⟩, hS.F ht⟩) hS.2.2 dX12_common_17
  · skip
    have zh_1 : p1.toInt = 0 := zL_eq h_1 rfl rfl
    refine lv_lload_n hx hb dX12_common_6 rfl (lv_at hl 0 rfl) ?_
    refine lv_goto (tgt := 17) hx hb dX12_common_7 (by decide) ?_
    obtain ⟨hP9, hD9⟩ := sub2 hP hD (ws' := []) [] (by decide +kernel) rfl
    exact W.lret (v := p0) hx hb hr (fun tZ ht hW => ⟨⟨p0, (), rfl, (show ¬ p0.toInt = 0 from by omega), by rw [ht]; exact hP9, va_K.moved hW.alike hK, hD9⟩, hS.F ht⟩) hS.2.2 dX12_common_17
set_option maxHeartbeats 4000000 in
set_option maxRecDepth 100000 in
theorem c_X12_laysChance (l : Launch) (D : va_G) (k : Nat → ClassId) (mo : Nat) (p0 : Int32) (v0 : Int32) (m1 : Nat) (m2 : Nat) (m3 : Nat) (m4 : Nat) (m5 : Nat) (v6 : Int32) (v7 : Int32) (v8 : Int32) (v9 : Int32) (v10 : Int32) (v11 : Int64) (v12 : Int32) (v13 : Int32) (v14 : Int32) (v15 : Int32) (m16 : Nat) (m17 : Nat) (m18 : Nat) (m19 : Nat) (m20 : Nat) (m21 : Nat) (m22 : Nat) (m23 : Nat) (v24 : Int32) (m25 : Nat) (m26 : Nat) (m27 : Nat) (m28 : Nat) (m29 : Nat) (v30 : Int32) (m31 : Nat) (m32 : Nat) (m33 : Nat) (v34 : Int32) (v35 : Int32) (v36 : Int32) (m37 : Nat) (m38 : Nat) (m39 : Nat) (m40 : Nat) (v41 : Int64) (f17 : Nat → Int32) (f18 : Nat → Int32) (f19 : Nat → Int32) (f22 : Nat → Int32) (f25 : Nat → Int32) (f26 : Nat → Int32) (f40 : Nat → Int64) (sz : Nat) (h_p0 : 0 ≤ p0.toInt ∧ p0.toInt ≤ 7) (h_v6 : 0 ≤ v6.toInt ∧ v6.toInt ≤ 1000) (h_v24 : 0 ≤ v24.toInt ∧ v24.toInt ≤ 1023) (hp_f17_0 : PR 30 6 0 0 8 f17) (hp_f17_1 : PR 30 6 1 0 10 f17) (hp_f17_2 : PR 30 6 2 0 4 f17) (hp_f17_3 : PR 30 6 3 0 6 f17) (hp_f17_4 : PR 30 6 4 0 2 f17) (hp_f17_5 : PR 30 6 5 0 40 f17) (hp_f18_0 : PR 250 5 0 0 7 f18) (hp_f18_1 : PR 250 5 1 0 7 f18) (hp_f18_2 : PR 250 5 2 0 60 f18) (hp_f18_3 : PR 250 5 3 0 10 f18) (hp_f19_0 : PR 40 2 0 0 7 f19) (hp_f19_1 : PR 40 2 1 0 99 f19) (hp_f22_0 : PR 600 3 1 0 9 f22) (hp_f22_1 : PR 600 3 2 0 99 f22) (hp_f22_2 : AK f22) (hp_f25_0 : PR 4 1 0 0 99 f25) (hp_f26_0 : PR 8 1 0 0 100000 f26) : Met l yX12_laysChance (ww yX12_laysChance cX12_laysChance 7 none) ({ frames := 4, cells := 0, slots := 0, locals := 92 }) (Pre0 D k [(mo, .inr (12, [.int v0, .ref m1, .ref m2, .ref m3, .ref m4, .ref m5, .int v6, .int v7, .int v8, .int v9, .int v10, .long v11, .int v12, .int v13, .int v14, .int v15, .ref m16, .ref m17, .ref m18, .ref m19, .ref m20, .ref m21, .ref m22, .ref m23, .int v24, .ref m25, .ref m26, .ref m27, .ref m28, .ref m29, .int v30, .ref m31, .ref m32, .ref m33, .int v34, .int v35, .int v36, .ref m37, .ref m38, .ref m39, .ref m40, .long v41])), (m17, .inl (k 0, 30, .inl f17)), (m18, .inl (k 0, 250, .inl f18)), (m19, .inl (k 0, 40, .inl f19)), (m22, .inl (k 0, 600, .inl f22)), (m25, .inl (k 0, 4, .inl f25)), (m26, .inl (k 0, 8, .inl f26)), (m40, .inl (k 2, 1000, .inr (.inl f40)))] sz [.ref mo, .int p0]) (va_Qv (fun (u : Int32 × Int64 × (Nat → Int32) × (Nat → Int32) × (Nat → Int64)) => match u with | (v24z, v41z, f25z, f26z, f40z) => (0 ≤ v24z.toInt ∧ v24z.toInt ≤ 1023) ∧ (PR 4 1 0 0 99 f25z) ∧ (PR 8 1 0 0 100000 f26z) ∧ (1 ≤ v41z.toInt ∧ v41z.toInt ≤ 10000000000)) (fun (u : Int32 × Int64 × (Nat → Int32) × (Nat → Int32) × (Nat → Int64)) tZ => match u with | (v24z, v41z, f25z, f26z, f40z) => Bw D k (va_A [(mo, .inr (12, [.int v0, .ref m1, .ref m2, .ref m3, .ref m4, .ref m5, .int v6, .int v7, .int v8, .int v9, .int v10, .long v11, .int v12, .int v13, .int v14, .int v15, .ref m16, .ref m17, .ref m18, .ref m19, .ref m20, .ref m21, .ref m22, .ref m23, .int v24, .ref m25, .ref m26, .ref m27, .ref m28, .ref m29, .int v30, .ref m31, .ref m32, .ref m33, .int v34, .int v35, .int v36, .ref m37, .ref m38, .ref m39, .ref m40, .long v41])), (m17, .inl (k 0, 30, .inl f17)), (m18, .inl (k 0, 250, .inl f18)), (m19, .inl (k 0, 40, .inl f19)), (m22, .inl (k 0, 600, .inl f22)), (m25, .inl (k 0, 4, .inl f25)), (m26, .inl (k 0, 8, .inl f26)), (m40, .inl (k 2, 1000, .inr (.inl f40)))] sz) [(mo, .inr (12, [.int v0, .ref m1, .ref m2, .ref m3, .ref m4, .ref m5, .int v6, .int v7, .int v8, .int v9, .int v10, .long v11, .int v12, .int v13, .int v14, .int v15, .ref m16, .ref m17, .ref m18, .ref m19, .ref m20, .ref m21, .ref m22, .ref m23, .int v24z, .ref m25, .ref m26, .ref m27, .ref m28, .ref m29, .int v30, .ref m31, .ref m32, .ref m33, .int v34, .int v35, .int v36, .ref m37, .ref m38, .ref m39, .ref m40, .long v41z])), (m17, .inl (k 0, 30, .inl f17)), (m18, .inl (k 0, 250, .inl f18)), (m19, .inl (k 0, 40, .inl f19)), (m22, .inl (k 0, 600, .inl f22)), (m25, .inl (k 0, 4, .inl f25z)), (m26, .inl (k 0, 8, .inl f26z)), (m40, .inl (k 2, 1000, .inr (.inl f40z)))] tZ) (va_A [(mo, .inr (12, [.int v0, .ref m1, .ref m2, .ref m3, .ref m4, .ref m5, .int v6, .int v7, .int v8, .int v9, .int v10, .long v11, .int v12, .int v13, .int v14, .int v15, .ref m16, .ref m17, .ref m18, .ref m19, .ref m20, .ref m21, .ref m22, .ref m23, .int v24, .ref m25, .ref m26, .ref m27, .ref m28, .ref m29, .int v30, .ref m31, .ref m32, .ref m33, .int v34, .int v35, .int v36, .ref m37, .ref m38, .ref m39, .ref m40, .long v41])), (m17, .inl (k 0, 30, .inl f17)), (m18, .inl (k 0, 250, .inl f18)), (m19, .inl (k 0, 40, .inl f19)), (m22, .inl (k 0, 600, .inl f22)), (m25, .inl (k 0, 4, .inl f25)), (m26, .inl (k 0, 8, .inl f26)), (m40, .inl (k 2, 1000, .inr (.inl f40)))] sz)) 0 0 (va_A [(mo, .inr (12, [.int v0, .ref m1, .ref m2, .ref m3, .ref m4, .ref m5, .int v6, .int v7, .int v8, .int v9, .int v10, .long v11, .int v12, .int v13, .int v14, .int v15, .ref m16, .ref m17, .ref m18, .ref m19, .ref m20, .ref m21, .ref m22, .ref m23, .int v24, .ref m25, .ref m26, .ref m27, .ref m28, .ref m29, .int v30, .ref m31, .ref m32, .ref m33, .int v34, .int v35, .int v36, .ref m37, .ref m38, .ref m39, .ref m40, .long v41])), (m17, .inl (k 0, 30, .inl f17)), (m18, .inl (k 0, 250, .inl f18)), (m19, .inl (k 0, 40, .inl f19)), (m22, .inl (k 0, 600, .inl f22)), (m25, .inl (k 0, 4, .inl f25)), (m26, .inl (k 0, 8, .inl f26)), (m40, .inl (k 2, 1000, .inr (.inl f40)))] sz) := by
  refine Met.ofW (cc := cX12_laysChance) (maxL := 7) (ret := none) (by decide +kernel) rfl ?_
  intro p e s m args below meth c s₁ B hml hv
  obtain ⟨rfl, hsz, hP, hK, hD0, hN⟩ := hv
  have hx := B.exec
  have hb := B.bytes
  have hr := B.returns
  have hts : ∀ w ∈ TT, w.before _ s = true := fun w h => atoms_spec (ws := ww yX12_laysChance cX12_laysChance 7 none) B.pre w (List.mem_cons_of_mem _ h)
  have hown : s.vm.findClass RX12 = some m.cls := findClass_of_methodNamed B.named
  have hlocks := B.notSynchronized
  subst hsz
  have hD := hD0.self (sz := s.heap.size)
  generalize hAe : va_A [(mo, .inr (12, [.int v0, .ref m1, .ref m2, .ref m3, .ref m4, .ref m5, .int v6, .int v7, .int v8, .int v9, .int v10, .long v11, .int v12, .int v13, .int v14, .int v15, .ref m16, .ref m17, .ref m18, .ref m19, .ref m20, .ref m21, .ref m22, .ref m23, .int v24, .ref m25, .ref m26, .ref m27, .ref m28, .ref m29, .int v30, .ref m31, .ref m32, .ref m33, .int v34, .int v35, .int v36, .ref m37, .ref m38, .ref m39, .ref m40, .long v41])), (m17, .inl (k 0, 30, .inl f17)), (m18, .inl (k 0, 250, .inl f18)), (m19, .inl (k 0, 40, .inl f19)), (m22, .inl (k 0, 600, .inl f22)), (m25, .inl (k 0, 4, .inl f25)), (m26, .inl (k 0, 8, .inl f26)), (m40, .inl (k 2, 1000, .inr (.inl f40)))] s.heap.size = A at hD ⊢
  have hA : ∀ q : Nat, s.heap.size ≤ q → A q := fun q h => by rw [← hAe]; exact Or.inr h
  have hS : va_S A s.heap s.heap [] := va_S.rf
  have hl := lv_entry ([.ref mo, .int p0]) (n := 7) (Nat.le_of_ble_eq_true rfl)
  rw [lg_entry_eq]
  generalize (lg_sl ([.ref mo, .int p0]) ++ List.replicate (7 - (lg_sl ([.ref mo, .int p0])).length) Slot.unset).toArray = ls at hl ⊢
  have hl : lv_has ls 7 [(0, .ref mo), (1, .int p0)] := hl
  refine lv_aload_n hx hb dX12_laysChance_0 rfl (lv_at hl 0 rfl) ?_
  obtain ⟨hPc, hDc, hFc⟩ := sub3 hP hD hS hA (ws' := [(mo, .inr (12, [.int v0, .ref m1, .ref m2, .ref m3, .ref m4, .ref m5, .int v6, .int v7, .int v8, .int v9, .int v10, .long v11, .int v12, .int v13, .int v14, .int v15, .ref m16, .ref m17, .ref m18, .ref m19, .ref m20, .ref m21, .ref m22, .ref m23, .int v24, .ref m25, .ref m26, .ref m27, .ref m28, .ref m29, .int v30, .ref m31, .ref m32, .ref m33, .int v34, .int v35, .int v36, .ref m37, .ref m38, .ref m39, .ref m40, .long v41])), (m17, .inl (k 0, 30, .inl f17)), (m18, .inl (k 0, 250, .inl f18)), (m19, .inl (k 0, 40, .inl f19)), (m22, .inl (k 0, 600, .inl f22)), (m25, .inl (k 0, 4, .inl f25))]) [0, 1, 2, 3, 4, 5] (by decide +kernel) rfl
  refine va_callv (va_runV (C := RX12) (As := []) (rest := []) ⟨hx, hb, hml, hown, hts⟩ (c_X12_lays l D k mo v0 m1 m2 m3 m4 m5 v6 v7 v8 v9 v10 v11 v12 v13 v14 v15 m16 m17 m18 m19 m20 m21 m22 m23 v24 m25 m26 m27 m28 m29 v30 m31 m32 m33 v34 v35 v36 m37 m38 m39 m40 v41 f17 f18 f19 f22 f25 s.heap.size (show 0 ≤ v6.toInt ∧ v6.toInt ≤ 1000 from by omega) (show 0 ≤ v24.toInt ∧ v24.toInt ≤ 1023 from by omega) hp_f17_0 hp_f17_1 hp_f17_2 hp_f17_3 hp_f17_4 hp_f17_5 hp_f18_0 hp_f18_1 hp_f18_2 hp_f18_3 hp_f19_0 hp_f19_1 hp_f22_0 hp_f22_1 hp_f22_2 hp_f25_0) (cwV 0 hts (gV tw_7_103 tw_7_105 tw_p_59 tw_1_13 tw_7_106) rfl rfl rfl hdV_X12_lays ⟨Nat.le_of_ble_eq_true rfl, Nat.le_of_ble_eq_true rfl⟩) (cz_V hK hPc hDc hN (ci := 12) (q0 := 0) rfl rfl []) rfl rfl hl.1 rfl (lv_room (Nat.le_of_ble_eq_true rfl)) dX12_laysChance_1 ⟨Nat.le_of_ble_eq_true rfl, Nat.le_of_ble_eq_true rfl⟩) hS (fun q _ h => hFc q h) hFc (fun uZ tZ H1 locs ht hvm hw hB hz1 hk1 hS => ?_)
  obtain ⟨o_2, o_3⟩ := uZ
  obtain ⟨hP1, hK1, hD1⟩ := hB
  rw [ht] at hP1
  obtain ⟨hP, hD⟩ := va_join (wr := [(m26, .inl (k 0, 8, .inl f26)), (m40, .inl (k 2, 1000, .inr (.inl f40)))]) (w1 := [(mo, .inr (12, [.int v0, .ref m1, .ref m2, .ref m3, .ref m4, .ref m5, .int v6, .int v7, .int v8, .int v9, .int v10, .long v11, .int v12, .int v13, .int v14, .int v15, .ref m16, .ref m17, .ref m18, .ref m19, .ref m20, .ref m21, .ref m22, .ref m23, .int o_2, .ref m25, .ref m26, .ref m27, .ref m28, .ref m29, .int v30, .ref m31, .ref m32, .ref m33, .int v34, .int v35, .int v36, .ref m37, .ref m38, .ref m39, .ref m40, .long v41])), (m17, .inl (k 0, 30, .inl f17)), (m18, .inl (k 0, 250, .inl f18)), (m19, .inl (k 0, 40, .inl f19)), (m22, .inl (k 0, 600, .inl f22)), (m25, .inl (k 0, 4, .inl o_3))]) hP hD [0, 1, 2, 3, 4, 5] [6, 7] rfl rfl (by decide +kernel) (by decide +kernel) hk1 hFc hP1 hD1
  clear hK1 hP1 hD1 hPc hDc hFc
  clear hk1 hz1 ht hvm
  have hP : va_P D vwCl [(m26, .inl (k 0, 8, .inl f26)), (m40, .inl (k 2, 1000, .inr (.inl f40))), (mo, .inr (12, [.int v0, .ref m1, .ref m2, .ref m3, .ref m4, .ref m5, .int v6, .int v7, .int v8, .int v9, .int v10, .long v11, .int v12, .int v13, .int v14, .int v15, .ref m16, .ref m17, .ref m18, .ref m19, .ref m20, .ref m21, .ref m22, .ref m23, .int o_2, .ref m25, .ref m26, .ref m27, .ref m28, .ref m29, .int v30, .ref m31, .ref m32, .ref m33, .int v34, .int v35, .int v36, .ref m37, .ref m38, .ref m39, .ref m40, .long v41])), (m17, .inl (k 0, 30, .inl f17)), (m18, .inl (k 0, 250, .inl f18)), (m19, .inl (k 0, 40, .inl f19)), (m22, .inl (k 0, 600, .inl f22)), (m25, .inl (k 0, 4, .inl o_3))] H1 := hP
  have hD : va_D A [(m26, .inl (k 0, 8, .inl f26)), (m40, .inl (k 2, 1000, .inr (.inl f40))), (mo, .inr (12, [.int v0, .ref m1, .ref m2, .ref m3, .ref m4, .ref m5, .int v6, .int v7, .int v8, .int v9, .int v10, .long v11, .int v12, .int v13, .int v14, .int v15, .ref m16, .ref m17, .ref m18, .ref m19, .ref m20, .ref m21, .ref m22, .ref m23, .int o_2, .ref m25, .ref m26, .ref m27, .ref m28, .ref m29, .int v30, .ref m31, .ref m32, .ref m33, .int v34, .int v35, .int v36, .ref m37, .ref m38, .ref m39, .ref m40, .long v41])), (m17, .inl (k 0, 30, .inl f17)), (m18, .inl (k 0, 250, .inl f18)), (m19, .inl (k 0, 40, .inl f19)), (m22, .inl (k 0, 600, .inl f22)), (m25, .inl (k 0, 4, .inl o_3))] := hD
  generalize H1 = H at hP hS ⊢
  have hw_4 : (0 ≤ o_2.toInt ∧ o_2.toInt ≤ 1023) ∧ (PR 4 1 0 0 99 o_3) := hw
  obtain ⟨hw_5, hw_6⟩ := hw_4
  clear hw
  refine lv_iconst (v := 0) hx hb dX12_laysChance_4 (by decide) ?_
  refine lv_istore_n (lv' := [(2, .int 0), (0, .ref mo), (1, .int p0)]) hx hb dX12_laysChance_5 rfl hl (by decide) rfl (fun ls hl => ?_)
  refine loop_r (Wg := fun H locs ls => W p l e _ s m _ below meth c H locs _ _ _ (F0 m 6 ls [])) (fun n9 H locs ls => ∃ (L6l2 : Int32) (L6a1 : Nat → Int64), n9 = (1000 - L6l2.toInt).toNat ∧ (0 ≤ L6l2.toInt ∧ L6l2.toInt ≤ 1000) ∧ va_P D vwCl [(m26, .inl (k 0, 8, .inl f26)), (m40, .inl (k 2, 1000, .inr (.inl L6a1))), (mo, .inr (12, [.int v0, .ref m1, .ref m2, .ref m3, .ref m4, .ref m5, .int v6, .int v7, .int v8, .int v9, .int v10, .long v11, .int v12, .int v13, .int v14, .int v15, .ref m16, .ref m17, .ref m18, .ref m19, .ref m20, .ref m21, .ref m22, .ref m23, .int o_2, .ref m25, .ref m26, .ref m27, .ref m28, .ref m29, .int v30, .ref m31, .ref m32, .ref m33, .int v34, .int v35, .int v36, .ref m37, .ref m38, .ref m39, .ref m40, .long v41])), (m17, .inl (k 0, 30, .inl f17)), (m18, .inl (k 0, 250, .inl f18)), (m19, .inl (k 0, 40, .inl f19)), (m22, .inl (k 0, 600, .inl f22)), (m25, .inl (k 0, 4, .inl o_3))] H ∧ va_D A [(m26, .inl (k 0, 8, .inl f26)), (m40, .inl (k 2, 1000, .inr (.inl L6a1))), (mo, .inr (12, [.int v0, .ref m1, .ref m2, .ref m3, .ref m4, .ref m5, .int v6, .int v7, .int v8, .int v9, .int v10, .long v11, .int v12, .int v13, .int v14, .int v15, .ref m16, .ref m17, .ref m18, .ref m19, .ref m20, .ref m21, .ref m22, .ref m23, .int o_2, .ref m25, .ref m26, .ref m27, .ref m28, .ref m29, .int v30, .ref m31, .ref m32, .ref m33, .int v34, .int v35, .int v36, .ref m37, .ref m38, .ref m39, .ref m40, .long v41])), (m17, .inl (k 0, 30, .inl f17)), (m18, .inl (k 0, 250, .inl f18)), (m19, .inl (k 0, 40, .inl f19)), (m22, .inl (k 0, 600, .inl f22)), (m25, .inl (k 0, 4, .inl o_3))] ∧ va_S A s.heap H locs ∧ lv_has ls 7 [(0, .ref mo), (1, .int p0), (2, .int L6l2)]) (fun n9 H locs ls hI ih_7 => ?_) _ _ _ _ ⟨0, f40, rfl, (show 0 ≤ 0 ∧ 0 ≤ 1000 from by omega), hP.sub (ws' := [(m26, .inl (k 0, 8, .inl f26)), (m40, .inl (k 2, 1000, .inr (.inl f40))), (mo, .inr (12, [.int v0, .ref m1, .ref m2, .ref m3, .ref m4, .ref m5, .int v6, .int v7, .int v8, .int v9, .int v10, .long v11, .int v12, .int v13, .int v14, .int v15, .ref m16, .ref m17, .ref m18, .ref m19, .ref m20, .ref m21, .ref m22, .ref m23, .int o_2, .ref m25, .ref m26, .ref m27, .ref m28, .ref m29, .int v30, .ref m31, .ref m32, .ref m33, .int v34, .int v35, .int v36, .ref m37, .ref m38, .ref m39, .ref m40, .long v41])), (m17, .inl (k 0, 30, .inl f17)), (m18, .inl (k 0, 250, .inl f18)), (m19, .inl (k 0, 40, .inl f19)), (m22, .inl (k 0, 600, .inl f22)), (m25, .inl (k 0, 4, .inl o_3))]) [0, 1, 2, 3, 4, 5, 6, 7] rfl, hD.sub (ws' := [(m26, .inl (k 0, 8, .inl f26)), (m40, .inl (k 2, 1000, .inr (.inl f40))), (mo, .inr (12, [.int v0, .ref m1, .ref m2, .ref m3, .ref m4, .ref m5, .int v6, .int v7, .int v8, .int v9, .int v10, .long v11, .int v12, .int v13, .int v14, .int v15, .ref m16, .ref m17, .ref m18, .ref m19, .ref m20, .ref m21, .ref m22, .ref m23, .int o_2, .ref m25, .ref m26, .ref m27, .ref m28, .ref m29, .int v30, .ref m31, .ref m32, .ref m33, .int v34, .int v35, .int v36, .ref m37, .ref m38, .ref m39, .ref m40, .long v41])), (m17, .inl (k 0, 30, .inl f17)), (m18, .inl (k 0, 250, .inl f18)), (m19, .inl (k 0, 40, .inl f19)), (m22, .inl (k 0, 600, .inl f22)), (m25, .inl (k 0, 4, .inl o_3))]) [0, 1, 2, 3, 4, 5, 6, 7] (by decide +kernel) rfl, hS, lv_sub hl [1, 2, 0] rfl⟩
  clear hP hD hS hl
  obtain ⟨L6l2, L6a1, en_8, zL6l2, hP, hD, hS, hl⟩ := hI
  refine lv_iload_n hx hb dX12_laysChance_6 rfl (lv_at hl 2 rfl) ?_
  refine lv_sipush (v := 1000) hx hb dX12_laysChance_7 (by decide) ?_
  refine lv_icmp_ge (tgt := 26) hx hb dX12_laysChance_10 (by decide) (fun h_9 => ?_) (fun h_9 => ?_)
  · skip
    have zh_9 : 1000 ≤ L6l2.toInt := z_le h_9
    refine lv_aload_n hx hb dX12_laysChance_26 rfl (lv_at hl 0 rfl) ?_
    refine lv_lconst (v := 1) hx hb dX12_laysChance_27 (by decide) ?_
    refine va_put (D := D) (ci := 12) (v := .long 1) (ty := tyX12 41) (C := RX12) (T := TX12) (N := 42) hx hb hts iT_X12 tyX12 tyX12_ok nmX12 hown hK hP hD hS 2 rfl rfl 41 (by decide) (hts _ tw_6_94) (fun _ h9 => h9) rfl (tyX12_ok 41 (by decide)) rfl rfl (Nat.le_of_ble_eq_true rfl) dX12_laysChance_28 (fun H locs hP hD hS => ?_)
    have hP : va_P D vwCl [(m26, .inl (k 0, 8, .inl f26)), (m40, .inl (k 2, 1000, .inr (.inl L6a1))), (mo, .inr (12, [.int v0, .ref m1, .ref m2, .ref m3, .ref m4, .ref m5, .int v6, .int v7, .int v8, .int v9, .int v10, .long v11, .int v12, .int v13, .int v14, .int v15, .ref m16, .ref m17, .ref m18, .ref m19, .ref m20, .ref m21, .ref m22, .ref m23, .int o_2, .ref m25, .ref m26, .ref m27, .ref m28, .ref m29, .int v30, .ref m31, .ref m32, .ref m33, .int v34, .int v35, .int v36, .ref m37, .ref m38, .ref m39, .ref m40, .long 1])), (m17, .inl (k 0, 30, .inl f17)), (m18, .inl (k 0, 250, .inl f18)), (m19, .inl (k 0, 40, .inl f19)), (m22, .inl (k 0, 600, .inl f22)), (m25, .inl (k 0, 4, .inl o_3))] H := hP
    have hD : va_D A [(m26, .inl (k 0, 8, .inl f26)), (m40, .inl (k 2, 1000, .inr (.inl L6a1))), (mo, .inr (12, [.int v0, .ref m1, .ref m2, .ref m3, .ref m4, .ref m5, .int v6, .int v7, .int v8, .int v9, .int v10, .long v11, .int v12, .int v13, .int v14, .int v15, .ref m16, .ref m17, .ref m18, .ref m19, .ref m20, .ref m21, .ref m22, .ref m23, .int o_2, .ref m25, .ref m26, .ref m27, .ref m28, .ref m29, .int v30, .ref m31, .ref m32, .ref m33, .int v34, .int v35, .int v36, .ref m37, .ref m38, .ref m39, .ref m40, .long 1])), (m17, .inl (k 0, 30, .inl f17)), (m18, .inl (k 0, 250, .inl f18)), (m19, .inl (k 0, 40, .inl f19)), (m22, .inl (k 0, 600, .inl f22)), (m25, .inl (k 0, 4, .inl o_3))] := hD
    refine lv_iconst (v := 0) hx hb dX12_laysChance_31 (by decide) ?_
    refine lv_istore_n (lv' := [(2, .int 0), (0, .ref mo), (1, .int p0)]) hx hb dX12_laysChance_32 rfl hl (by decide) rfl (fun ls hl => ?_)
    refine lv_iconst (v := 0) hx hb dX12_laysChance_33 (by decide) ?_
    refine lv_istore_n (lv' := [(3, .int 0), (2, .int 0), (0, .ref mo), (1, .int p0)]) hx hb dX12_laysChance_34 rfl hl (by decide) rfl (fun ls hl => ?_)
    refine loop_r (Wg := fun H locs ls => W p l e _ s m _ below meth c H locs _ _ _ (F0 m 35 ls [])) (fun n9 H locs ls => ∃ (L35l2 : Int32) (L35l3 : Int32) (L35f2x41 : Int64), n9 = (10 - L35l3.toInt).toNat ∧ (0 ≤ L35l2.toInt ∧ L35l2.toInt ≤ 1023) ∧ (0 ≤ L35l3.toInt ∧ L35l3.toInt ≤ 10) ∧ (WA L35l3.toInt L35f2x41.toInt) ∧ va_P D vwCl [(m26, .inl (k 0, 8, .inl f26)), (m40, .inl (k 2, 1000, .inr (.inl L6a1))), (mo, .inr (12, [.int v0, .ref m1, .ref m2, .ref m3, .ref m4, .ref m5, .int v6, .int v7, .int v8, .int v9, .int v10, .long v11, .int v12, .int v13, .int v14, .int v15, .ref m16, .ref m17, .ref m18, .ref m19, .ref m20, .ref m21, .ref m22, .ref m23, .int o_2, .ref m25, .ref m26, .ref m27, .ref m28, .ref m29, .int v30, .ref m31, .ref m32, .ref m33, .int v34, .int v35, .int v36, .ref m37, .ref m38, .ref m39, .ref m40, .long L35f2x41])), (m17, .inl (k 0, 30, .inl f17)), (m18, .inl (k 0, 250, .inl f18)), (m19, .inl (k 0, 40, .inl f19)), (m22, .inl (k 0, 600, .inl f22)), (m25, .inl (k 0, 4, .inl o_3))] H ∧ va_D A [(m26, .inl (k 0, 8, .inl f26)), (m40, .inl (k 2, 1000, .inr (.inl L6a1))), (mo, .inr (12, [.int v0, .ref m1, .ref m2, .ref m3, .ref m4, .ref m5, .int v6, .int v7, .int v8, .int v9, .int v10, .long v11, .int v12, .int v13, .int v14, .int v15, .ref m16, .ref m17, .ref m18, .ref m19, .ref m20, .ref m21, .ref m22, .ref m23, .int o_2, .ref m25, .ref m26, .ref m27, .ref m28, .ref m29, .int v30, .ref m31, .ref m32, .ref m33, .int v34, .int v35, .int v36, .ref m37, .ref m38, .ref m39, .ref m40, .long L35f2x41])), (m17, .inl (k 0, 30, .inl f17)), (m18, .inl (k 0, 250, .inl f18)), (m19, .inl (k 0, 40, .inl f19)), (m22, .inl (k 0, 600, .inl f22)), (m25, .inl (k 0, 4, .inl o_3))] ∧ va_S A s.heap H locs ∧ lv_has ls 7 [(0, .ref mo), (1, .int p0), (2, .int L35l2), (3, .int L35l3)]) (fun n9 H locs ls hI ih_10 => ?_) _ _ _ _ ⟨0, 0, 1, rfl, (show 0 ≤ 0 ∧ 0 ≤ 1023 from by omega), (show 0 ≤ 0 ∧ 0 ≤ 10 from by omega), WA.zero, hP.sub (ws' := [(m26, .inl (k 0, 8, .inl f26)), (m40, .inl (k 2, 1000, .inr (.inl L6a1))), (mo, .inr (12, [.int v0, .ref m1, .ref m2, .ref m3, .ref m4, .ref m5, .int v6, .int v7, .int v8, .int v9, .int v10, .long v11, .int v12, .int v13, .int v14, .int v15, .ref m16, .ref m17, .ref m18, .ref m19, .ref m20, .ref m21, .ref m22, .ref m23, .int o_2, .ref m25, .ref m26, .ref m27, .ref m28, .ref m29, .int v30, .ref m31, .ref m32, .ref m33, .int v34, .int v35, .int v36, .ref m37, .ref m38, .ref m39, .ref m40, .long 1])), (m17, .inl (k 0, 30, .inl f17)), (m18, .inl (k 0, 250, .inl f18)), (m19, .inl (k 0, 40, .inl f19)), (m22, .inl (k 0, 600, .inl f22)), (m25, .inl (k 0, 4, .inl o_3))]) [0, 1, 2, 3, 4, 5, 6, 7] rfl, hD.sub (ws' := [(m26, .inl (k 0, 8, .inl f26)), (m40, .inl (k 2, 1000, .inr (.inl L6a1))), (mo, .inr (12, [.int v0, .ref m1, .ref m2, .ref m3, .ref m4, .ref m5, .int v6, .int v7, .int v8, .int v9, .int v10, .long v11, .int v12, .int v13, .int v14, .int v15, .ref m16, .ref m17, .ref m18, .ref m19, .ref m20, .ref m21, .ref m22, .ref m23, .int o_2, .ref m25, .ref m26, .ref m27, .ref m28, .ref m29, .int v30, .ref m31, .ref m32, .ref m33, .int v34, .int v35, .int v36, .ref m37, .ref m38, .ref m39, .ref m40, .long 1])), (m17, .inl (k 0, 30, .inl f17)), (m18, .inl (k 0, 250, .inl f18)), (m19, .inl (k 0, 40, .inl f19)), (m22, .inl (k 0, 600, .inl f22)), (m25, .inl (k 0, 4, .inl o_3))]) [0, 1, 2, 3, 4, 5, 6, 7] (by decide +kernel) rfl, hS, lv_sub hl [2, 3, 1, 0] rfl⟩
    clear hP hD hS hl
    obtain ⟨L35l2, L35l3, L35f2x41, en_11, zL35l2, zL35l3, hi35x0, hP, hD, hS, hl⟩ := hI
    refine lv_iload_n hx hb dX12_laysChance_35 rfl (lv_at hl 3 rfl) ?_
    refine lv_aload_n hx hb dX12_laysChance_36 rfl (lv_at hl 0 rfl) ?_
    refine va_get (D := D) (ci := 12) (v := .ref m17) (C := RX12) (T := TX12) (N := 42) hx hb hts iT_X12 hown hK hP 2 rfl rfl 17 (by decide) (hts _ tw_6_70) (fun _ h9 => h9) rfl dX12_laysChance_37 ?_
    refine lv_iconst (v := 1) hx hb dX12_laysChance_40 (by decide) ?_
    refine va_iald hx hb hK hP 3 0 rfl rfl (z_in (by decide) (by decide)) dX12_laysChance_41 ?_
    refine lv_topi (fun x_12 ex_12 => ?_)
    have zx_12r1 : 0 ≤ x_12.toInt ∧ x_12.toInt ≤ 10 := by rw [ex_12]; exact PR.ld hp_f17_1 (by decide) (by decide) (by decide)
    refine lv_icmp_ge (tgt := 83) hx hb dX12_laysChance_42 (by decide) (fun h_13 => ?_) (fun h_13 => ?_)
    · skip
      have zh_13 : x_12.toInt ≤ L35l3.toInt := z_le h_13
      refine lv_iconst (v := 0) hx hb dX12_laysChance_83 (by decide) ?_
      refine lv_istore_n (lv' := [(3, .int 0), (0, .ref mo), (1, .int p0), (2, .int L35l2)]) hx hb dX12_laysChance_84 rfl hl (by decide) rfl (fun ls hl => ?_)
      refine loop_r (Wg := fun H locs ls => W p l e _ s m _ below meth c H locs _ _ _ (F0 m 85 ls [])) (fun n9 H locs ls => ∃ (L85l3 : Int32) (L85a0 : Nat → Int32) (L85a1 : Nat → Int64), n9 = (1024 - L85l3.toInt).toNat ∧ (0 ≤ L85l3.toInt ∧ L85l3.toInt ≤ 1024) ∧ (PR 8 1 0 0 100000 L85a0) ∧ va_P D vwCl [(m26, .inl (k 0, 8, .inl L85a0)), (m40, .inl (k 2, 1000, .inr (.inl L85a1))), (mo, .inr (12, [.int v0, .ref m1, .ref m2, .ref m3, .ref m4, .ref m5, .int v6, .int v7, .int v8, .int v9, .int v10, .long v11, .int v12, .int v13, .int v14, .int v15, .ref m16, .ref m17, .ref m18, .ref m19, .ref m20, .ref m21, .ref m22, .ref m23, .int o_2, .ref m25, .ref m26, .ref m27, .ref m28, .ref m29, .int v30, .ref m31, .ref m32, .ref m33, .int v34, .int v35, .int v36, .ref m37, .ref m38, .ref m39, .ref m40, .long L35f2x41])), (m17, .inl (k 0, 30, .inl f17)), (m18, .inl (k 0, 250, .inl f18)), (m19, .inl (k 0, 40, .inl f19)), (m22, .inl (k 0, 600, .inl f22)), (m25, .inl (k 0, 4, .inl o_3))] H ∧ va_D A [(m26, .inl (k 0, 8, .inl L85a0)), (m40, .inl (k 2, 1000, .inr (.inl L85a1))), (mo, .inr (12, [.int v0, .ref m1, .ref m2, .ref m3, .ref m4, .ref m5, .int v6, .int v7, .int v8, .int v9, .int v10, .long v11, .int v12, .int v13, .int v14, .int v15, .ref m16, .ref m17, .ref m18, .ref m19, .ref m20, .ref m21, .ref m22, .ref m23, .int o_2, .ref m25, .ref m26, .ref m27, .ref m28, .ref m29, .int v30, .ref m31, .ref m32, .ref m33, .int v34, .int v35, .int v36, .ref m37, .ref m38, .ref m39, .ref m40, .long L35f2x41])), (m17, .inl (k 0, 30, .inl f17)), (m18, .inl (k 0, 250, .inl f18)), (m19, .inl (k 0, 40, .inl f19)), (m22, .inl (k 0, 600, .inl f22)), (m25, .inl (k 0, 4, .inl o_3))] ∧ va_S A s.heap H locs ∧ lv_has ls 7 [(0, .ref mo), (1, .int p0), (2, .int L35l2), (3, .int L85l3)]) (fun n9 H locs ls hI ih_14 => ?_) _ _ _ _ ⟨0, f26, L6a1, rfl, (show 0 ≤ 0 ∧ 0 ≤ 1024 from by omega), hp_f26_0, hP.sub (ws' := [(m26, .inl (k 0, 8, .inl f26)), (m40, .inl (k 2, 1000, .inr (.inl L6a1))), (mo, .inr (12, [.int v0, .ref m1, .ref m2, .ref m3, .ref m4, .ref m5, .int v6, .int v7, .int v8, .int v9, .int v10, .long v11, .int v12, .int v13, .int v14, .int v15, .ref m16, .ref m17, .ref m18, .ref m19, .ref m20, .ref m21, .ref m22, .ref m23, .int o_2, .ref m25, .ref m26, .ref m27, .ref m28, .ref m29, .int v30, .ref m31, .ref m32, .ref m33, .int v34, .int v35, .int v36, .ref m37, .ref m38, .ref m39, .ref m40, .long L35f2x41])), (m17, .inl (k 0, 30, .inl f17)), (m18, .inl (k 0, 250, .inl f18)), (m19, .inl (k 0, 40, .inl f19)), (m22, .inl (k 0, 600, .inl f22)), (m25, .inl (k 0, 4, .inl o_3))]) [0, 1, 2, 3, 4, 5, 6, 7] rfl, hD.sub (ws' := [(m26, .inl (k 0, 8, .inl f26)), (m40, .inl (k 2, 1000, .inr (.inl L6a1))), (mo, .inr (12, [.int v0, .ref m1, .ref m2, .ref m3, .ref m4, .ref m5, .int v6, .int v7, .int v8, .int v9, .int v10, .long v11, .int v12, .int v13, .int v14, .int v15, .ref m16, .ref m17, .ref m18, .ref m19, .ref m20, .ref m21, .ref m22, .ref m23, .int o_2, .ref m25, .ref m26, .ref m27, .ref m28, .ref m29, .int v30, .ref m31, .ref m32, .ref m33, .int v34, .int v35, .int v36, .ref m37, .ref m38, .ref m39, .ref m40, .long L35f2x41])), (m17, .inl (k 0, 30, .inl f17)), (m18, .inl (k 0, 250, .inl f18)), (m19, .inl (k 0, 40, .inl f19)), (m22, .inl (k 0, 600, .inl f22)), (m25, .inl (k 0, 4, .inl o_3))]) [0, 1, 2, 3, 4, 5, 6, 7] (by decide +kernel) rfl, hS, lv_sub hl [1, 2, 3, 0] rfl⟩
      clear hP hD hS hl
      obtain ⟨L85l3, L85a0, L85a1, en_15, zL85l3, L85a0h0, hP, hD, hS, hl⟩ := hI
      refine lv_iload_n hx hb dX12_laysChance_85 rfl (lv_at hl 3 rfl) ?_
      refine lv_iload_n hx hb dX12_laysChance_86 rfl (lv_at hl 2 rfl) ?_
      refine lv_icmp_gt (tgt := 230) hx hb dX12_laysChance_87 (by decide) (fun h_16 => ?_) (fun h_16 => ?_)
      · skip
        have zh_16 : L35l2.toInt < L85l3.toInt := z_lt h_16
        obtain ⟨hP9, hD9⟩ := sub2 hP hD (ws' := [(mo, .inr (12, [.int v0, .ref m1, .ref m2, .ref m3, .ref m4, .ref m5, .int v6, .int v7, .int v8, .int v9, .int v10, .long v11, .int v12, .int v13, .int v14, .int v15, .ref m16, .ref m17, .ref m18, .ref m19, .ref m20, .ref m21, .ref m22, .ref m23, .int o_2, .ref m25, .ref m26, .ref m27, .ref m28, .ref m29, .int v30, .ref m31, .ref m32, .ref m33, .int v34, .int v35, .int v36, .ref m37, .ref m38, .ref m39, .ref m40, .long L35f2x41])), (m17, .inl (k 0, 30, .inl f17)), (m18, .inl (k 0, 250, .inl f18)), (m19, .inl (k 0, 40, .inl f19)), (m22, .inl (k 0, 600, .inl f22)), (m25, .inl (k 0, 4, .inl o_3)), (m26, .inl (k 0, 8, .inl L85a0)), (m40, .inl (k 2, 1000, .inr (.inl L85a1)))]) [2, 3, 4, 5, 6, 7, 0, 1] (by decide +kernel) rfl
        exact W.vret hx hb hr (fun tZ ht hW => ⟨⟨(o_2, L35f2x41, o_3, L85a0, L85a1), rfl, ⟨(show 0 ≤ o_2.toInt ∧ o_2.toInt ≤ 1023 from by omega), hw_6, L85a0h0, (WA.le hi35x0 (by omega))⟩, by rw [ht]; exact hP9, va_K.moved hW.alike hK, hD9⟩, hS.F ht⟩) hS.2.2 dX12_laysChance_230
      · skip
        have zh_16 : L85l3.toInt ≤ L35l2.toInt := z_nlt h_16
        refine lv_iload_n hx hb dX12_laysChance_90 rfl (lv_at hl 3 rfl) ?_
        refine lv_iload_n hx hb dX12_laysChance_91 rfl (lv_at hl 2 rfl) ?_
        refine lv_iconst (v := (-1)) hx hb dX12_laysChance_92 (by decide) ?_
        refine lv_ixor hx hb dX12_laysChance_93 ?_
        refine lv_topi (fun x_17 ex_17 => ?_)
        refine lv_iand hx hb dX12_laysChance_94 ?_
        refine lv_topi (fun x_18 ex_18 => ?_)
        have zrx_17 := z_rng x_17
        have zx_18 : 0 ≤ x_18.toInt ∧ x_18.toInt ≤ L85l3.toInt := by rw [ex_18]; exact z_andL (by omega)
        refine lv_if_eq (tgt := 101) hx hb dX12_laysChance_95 (by decide) (fun h_19 => ?_) (fun h_19 => ?_)
        · skip
          have zh_19 : x_18.toInt = 0 := z_eq h_19
          refine lv_lconst (v := 1) hx hb dX12_laysChance_101 (by decide) ?_
          refine lv_lstore (lv' := [(4, .long 1), (0, .ref mo), (1, .int p0), (2, .int L35l2), (3, .int L85l3)]) hx hb dX12_laysChance_102 hl (by decide) rfl (fun ls hl => ?_)
          refine lv_iconst (v := 0) hx hb dX12_laysChance_104 (by decide) ?_
          refine lv_istore (lv' := [(6, .int 0), (4, .long 1), (0, .ref mo), (1, .int p0), (2, .int L35l2), (3, .int L85l3)]) hx hb dX12_laysChance_105 hl (by decide) rfl (fun ls hl => ?_)
          refine loop_r (Wg := fun H locs ls => W p l e _ s m _ below meth c H locs _ _ _ (F0 m 107 ls [])) (fun n9 H locs ls => ∃ (L107l4 : Int64) (L107l6 : Int32), n9 = (10 - L107l6.toInt).toNat ∧ (0 ≤ L107l6.toInt ∧ L107l6.toInt ≤ 10) ∧ va_P D vwCl [(m26, .inl (k 0, 8, .inl L85a0)), (m40, .inl (k 2, 1000, .inr (.inl L85a1))), (mo, .inr (12, [.int v0, .ref m1, .ref m2, .ref m3, .ref m4, .ref m5, .int v6, .int v7, .int v8, .int v9, .int v10, .long v11, .int v12, .int v13, .int v14, .int v15, .ref m16, .ref m17, .ref m18, .ref m19, .ref m20, .ref m21, .ref m22, .ref m23, .int o_2, .ref m25, .ref m26, .ref m27, .ref m28, .ref m29, .int v30, .ref m31, .ref m32, .ref m33, .int v34, .int v35, .int v36, .ref m37, .ref m38, .ref m39, .ref m40, .long L35f2x41])), (m17, .inl (k 0, 30, .inl f17)), (m18, .inl (k 0, 250, .inl f18)), (m19, .inl (k 0, 40, .inl f19)), (m22, .inl (k 0, 600, .inl f22)), (m25, .inl (k 0, 4, .inl o_3))] H ∧ va_D A [(m26, .inl (k 0, 8, .inl L85a0)), (m40, .inl (k 2, 1000, .inr (.inl L85a1))), (mo, .inr (12, [.int v0, .ref m1, .ref m2, .ref m3, .ref m4, .ref m5, .int v6, .int v7, .int v8, .int v9, .int v10, .long v11, .int v12, .int v13, .int v14, .int v15, .ref m16, .ref m17, .ref m18, .ref m19, .ref m20, .ref m21, .ref m22, .ref m23, .int o_2, .ref m25, .ref m26, .ref m27, .ref m28, .ref m29, .int v30, .ref m31, .ref m32, .ref m33, .int v34, .int v35, .int v36, .ref m37, .ref m38, .ref m39, .ref m40, .long L35f2x41])), (m17, .inl (k 0, 30, .inl f17)), (m18, .inl (k 0, 250, .inl f18)), (m19, .inl (k 0, 40, .inl f19)), (m22, .inl (k 0, 600, .inl f22)), (m25, .inl (k 0, 4, .inl o_3))] ∧ va_S A s.heap H locs ∧ lv_has ls 7 [(0, .ref mo), (1, .int p0), (2, .int L35l2), (3, .int L85l3), (4, .long L107l4), (6, .int L107l6)]) (fun n9 H locs ls hI ih_20 => ?_) _ _ _ _ ⟨1, 0, rfl, (show 0 ≤ 0 ∧ 0 ≤ 10 from by omega), hP.sub (ws' := [(m26, .inl (k 0, 8, .inl L85a0)), (m40, .inl (k 2, 1000, .inr (.inl L85a1))), (mo, .inr (12, [.int v0, .ref m1, .ref m2, .ref m3, .ref m4, .ref m5, .int v6, .int v7, .int v8, .int v9, .int v10, .long v11, .int v12, .int v13, .int v14, .int v15, .ref m16, .ref m17, .ref m18, .ref m19, .ref m20, .ref m21, .ref m22, .ref m23, .int o_2, .ref m25, .ref m26, .ref m27, .ref m28, .ref m29, .int v30, .ref m31, .ref m32, .ref m33, .int v34, .int v35, .int v36, .ref m37, .ref m38, .ref m39, .ref m40, .long L35f2x41])), (m17, .inl (k 0, 30, .inl f17)), (m18, .inl (k 0, 250, .inl f18)), (m19, .inl (k 0, 40, .inl f19)), (m22, .inl (k 0, 600, .inl f22)), (m25, .inl (k 0, 4, .inl o_3))]) [0, 1, 2, 3, 4, 5, 6, 7] rfl, hD.sub (ws' := [(m26, .inl (k 0, 8, .inl L85a0)), (m40, .inl (k 2, 1000, .inr (.inl L85a1))), (mo, .inr (12, [.int v0, .ref m1, .ref m2, .ref m3, .ref m4, .ref m5, .int v6, .int v7, .int v8, .int v9, .int v10, .long v11, .int v12, .int v13, .int v14, .int v15, .ref m16, .ref m17, .ref m18, .ref m19, .ref m20, .ref m21, .ref m22, .ref m23, .int o_2, .ref m25, .ref m26, .ref m27, .ref m28, .ref m29, .int v30, .ref m31, .ref m32, .ref m33, .int v34, .int v35, .int v36, .ref m37, .ref m38, .ref m39, .ref m40, .long L35f2x41])), (m17, .inl (k 0, 30, .inl f17)), (m18, .inl (k 0, 250, .inl f18)), (m19, .inl (k 0, 40, .inl f19)), (m22, .inl (k 0, 600, .inl f22)), (m25, .inl (k 0, 4, .inl o_3))]) [0, 1, 2, 3, 4, 5, 6, 7] (by decide +kernel) rfl, hS, lv_sub hl [2, 3, 4, 5, 1, 0] rfl⟩
          clear hP hD hS hl
          obtain ⟨L107l4, L107l6, en_21, zL107l6, hP, hD, hS, hl⟩ := hI
          refine lv_iload hx hb dX12_laysChance_107 (lv_at hl 5 rfl) ?_
          refine lv_aload_n hx hb dX12_laysChance_109 rfl (lv_at hl 0 rfl) ?_
          refine va_get (D := D) (ci := 12) (v := .ref m17) (C := RX12) (T := TX12) (N := 42) hx hb hts iT_X12 hown hK hP 2 rfl rfl 17 (by decide) (hts _ tw_6_70) (fun _ h9 => h9) rfl dX12_laysChance_110 ?_
          refine lv_iconst (v := 1) hx hb dX12_laysChance_113 (by decide) ?_
          refine va_iald hx hb hK hP 3 0 rfl rfl (z_in (by decide) (by decide)) dX12_laysChance_114 ?_
          refine lv_topi (fun x_22 ex_22 => ?_)
          obtain rfl : x_12 = x_22 := ex_12.trans ex_22.symm
          refine lv_icmp_ge (tgt := 177) hx hb dX12_laysChance_115 (by decide) (fun h_23 => ?_) (fun h_23 => ?_)
          · skip
            have zh_23 : x_12.toInt ≤ L107l6.toInt := z_le h_23
            refine lv_lload hx hb dX12_laysChance_177 (lv_at hl 4 rfl) ?_
            refine lv_lconst (v := 0) hx hb dX12_laysChance_179 (by decide) ?_
            refine W.lcmp hx hb dX12_laysChance_180 ?_
            refine lv_if_ne (tgt := 187) hx hb dX12_laysChance_181 (by decide) (fun h_24 => ?_) (fun h_24 => ?_)
            · skip
              have zh_24 : ¬ L107l4.toInt = 0 := zL_ne h_24 rfl rfl
              refine lv_aload_n hx hb dX12_laysChance_187 rfl (lv_at hl 0 rfl) ?_
              refine lv_aload_n hx hb dX12_laysChance_188 rfl (lv_at hl 0 rfl) ?_
              refine va_get (D := D) (ci := 12) (v := .int o_2) (C := RX12) (T := TX12) (N := 42) hx hb hts iT_X12 hown hK hP 2 rfl rfl 24 (by decide) (hts _ tw_6_77) (fun _ h9 => h9) rfl dX12_laysChance_189 ?_
              refine lv_iload_n hx hb dX12_laysChance_192 rfl (lv_at hl 3 rfl) ?_
              obtain ⟨hPc, hDc, hFc⟩ := sub3 hP hD hS hA (ws' := [(mo, .inr (12, [.int v0, .ref m1, .ref m2, .ref m3, .ref m4, .ref m5, .int v6, .int v7, .int v8, .int v9, .int v10, .long v11, .int v12, .int v13, .int v14, .int v15, .ref m16, .ref m17, .ref m18, .ref m19, .ref m20, .ref m21, .ref m22, .ref m23, .int o_2, .ref m25, .ref m26, .ref m27, .ref m28, .ref m29, .int v30, .ref m31, .ref m32, .ref m33, .int v34, .int v35, .int v36, .ref m37, .ref m38, .ref m39, .ref m40, .long L35f2x41])), (m17, .inl (k 0, 30, .inl f17)), (m18, .inl (k 0, 250, .inl f18)), (m19, .inl (k 0, 40, .inl f19)), (m25, .inl (k 0, 4, .inl o_3)), (m26, .inl (k 0, 8, .inl L85a0))]) [2, 3, 4, 5, 7, 0] (by decide +kernel) rfl
              refine va_callv (va_runV (C := RX12) (As := [.int o_2, .int L85l3]) (rest := []) ⟨hx, hb, hml, hown, hts⟩ (c_X12_darkens l D k mo o_2 L85l3 v0 m1 m2 m3 m4 m5 v6 v7 v8 v9 v10 v11 v12 v13 v14 v15 m16 m17 m18 m19 m20 m21 m22 m23 o_2 m25 m26 m27 m28 m29 v30 m31 m32 m33 v34 v35 v36 m37 m38 m39 m40 L35f2x41 f17 f18 f19 o_3 L85a0 H.size (show 0 ≤ v6.toInt ∧ v6.toInt ≤ 1000 from by omega) (show 0 ≤ o_2.toInt ∧ o_2.toInt ≤ 1023 from by omega) hp_f17_0 hp_f17_1 hp_f17_2 hp_f17_3 hp_f17_4 hp_f17_5 hp_f18_0 hp_f18_1 hp_f18_2 hp_f18_3 hp_f19_0 hp_f19_1 (PR.wk hw_6 (by decide) (by decide)) L85a0h0) (cwV 2 hts (gV tw_7_141 tw_7_143 tw_p_64 tw_1_13 tw_7_144) rfl rfl rfl hdV_X12_darkens ⟨Nat.le_of_ble_eq_true rfl, Nat.le_of_ble_eq_true rfl⟩) (cz_V hK hPc hDc hN (ci := 12) (q0 := 0) rfl rfl [.int o_2, .int L85l3]) rfl rfl hl.1 rfl (lv_room (Nat.le_of_ble_eq_true rfl)) dX12_laysChance_193 ⟨Nat.le_of_ble_eq_true rfl, Nat.le_of_ble_eq_true rfl⟩) hS (fun q _ h => hFc q h) hFc (fun uZ tZ H1 locs ht hvm hw hB hz1 hk1 hS => ?_)
              obtain ⟨o_26, rfl⟩ : ∃ z, z = uZ := ⟨_, rfl⟩
              obtain ⟨hP1, hK1, hD1⟩ := hB
              rw [ht] at hP1
              obtain ⟨hP, hD⟩ := va_join (wr := [(m40, .inl (k 2, 1000, .inr (.inl L85a1))), (m22, .inl (k 0, 600, .inl f22))]) (w1 := [(mo, .inr (12, [.int v0, .ref m1, .ref m2, .ref m3, .ref m4, .ref m5, .int v6, .int v7, .int v8, .int v9, .int v10, .long v11, .int v12, .int v13, .int v14, .int v15, .ref m16, .ref m17, .ref m18, .ref m19, .ref m20, .ref m21, .ref m22, .ref m23, .int o_2, .ref m25, .ref m26, .ref m27, .ref m28, .ref m29, .int v30, .ref m31, .ref m32, .ref m33, .int v34, .int v35, .int v36, .ref m37, .ref m38, .ref m39, .ref m40, .long L35f2x41])), (m17, .inl (k 0, 30, .inl f17)), (m18, .inl (k 0, 250, .inl f18)), (m19, .inl (k 0, 40, .inl f19)), (m25, .inl (k 0, 4, .inl o_3)), (m26, .inl (k 0, 8, .inl o_26))]) hP hD [2, 3, 4, 5, 7, 0] [1, 6] rfl rfl (by decide +kernel) (by decide +kernel) hk1 hFc hP1 hD1
              clear hK1 hP1 hD1 hPc hDc hFc
              clear hk1 hz1 ht hvm
              have hP : va_P D vwCl [(m40, .inl (k 2, 1000, .inr (.inl L85a1))), (m22, .inl (k 0, 600, .inl f22)), (mo, .inr (12, [.int v0, .ref m1, .ref m2, .ref m3, .ref m4, .ref m5, .int v6, .int v7, .int v8, .int v9, .int v10, .long v11, .int v12, .int v13, .int v14, .int v15, .ref m16, .ref m17, .ref m18, .ref m19, .ref m20, .ref m21, .ref m22, .ref m23, .int o_2, .ref m25, .ref m26, .ref m27, .ref m28, .ref m29, .int v30, .ref m31, .ref m32, .ref m33, .int v34, .int v35, .int v36, .ref m37, .ref m38, .ref m39, .ref m40, .long L35f2x41])), (m17, .inl (k 0, 30, .inl f17)), (m18, .inl (k 0, 250, .inl f18)), (m19, .inl (k 0, 40, .inl f19)), (m25, .inl (k 0, 4, .inl o_3)), (m26, .inl (k 0, 8, .inl o_26))] H1 := hP
              have hD : va_D A [(m40, .inl (k 2, 1000, .inr (.inl L85a1))), (m22, .inl (k 0, 600, .inl f22)), (mo, .inr (12, [.int v0, .ref m1, .ref m2, .ref m3, .ref m4, .ref m5, .int v6, .int v7, .int v8, .int v9, .int v10, .long v11, .int v12, .int v13, .int v14, .int v15, .ref m16, .ref m17, .ref m18, .ref m19, .ref m20, .ref m21, .ref m22, .ref m23, .int o_2, .ref m25, .ref m26, .ref m27, .ref m28, .ref m29, .int v30, .ref m31, .ref m32, .ref m33, .int v34, .int v35, .int v36, .ref m37, .ref m38, .ref m39, .ref m40, .long L35f2x41])), (m17, .inl (k 0, 30, .inl f17)), (m18, .inl (k 0, 250, .inl f18)), (m19, .inl (k 0, 40, .inl f19)), (m25, .inl (k 0, 4, .inl o_3)), (m26, .inl (k 0, 8, .inl o_26))] := hD
              generalize H1 = H at hP hS ⊢
              have hw_27 : (PR 8 1 0 0 100000 o_26) ∧ (MN o_26) := hw
              obtain ⟨hw_28, hw_29⟩ := hw_27
              clear hw
              refine lv_aload_n hx hb dX12_laysChance_196 rfl (lv_at hl 0 rfl) ?_
              refine va_get (D := D) (ci := 12) (v := .ref m26) (C := RX12) (T := TX12) (N := 42) hx hb hts iT_X12 hown hK hP 2 rfl rfl 26 (by decide) (hts _ tw_6_79) (fun _ h9 => h9) rfl dX12_laysChance_197 ?_
              refine lv_iload_n hx hb dX12_laysChance_200 rfl (lv_at hl 1 rfl) ?_
              refine va_iald hx hb hK hP 7 0 rfl rfl (z_in (by omega) (by omega)) dX12_laysChance_201 ?_
              refine lv_topi (fun x_30 ex_30 => ?_)
              have zx_30r0 : 0 ≤ x_30.toInt ∧ x_30.toInt ≤ 100000 := by rw [ex_30]; exact PR.ld hw_28 (by omega) (by omega) (by omega)
              have zmnx_30 : x_30.toInt = 100000 ∨ x_30.toInt ≤ 619 := by rw [ex_30]; exact MN.ld hw_29 (by omega) (by omega)
              refine lv_sipush (v := 999) hx hb dX12_laysChance_202 (by decide) ?_
              refine lv_icmp_gt (tgt := 224) hx hb dX12_laysChance_205 (by decide) (fun h_31 => ?_) (fun h_31 => ?_)
              · skip
                have zh_31 : 999 < x_30.toInt := z_lt h_31
                obtain ⟨x_32, ex_32⟩ : ∃ y : Int32, y = L85l3 + 1 := ⟨_, rfl⟩
                have zx_32 : x_32.toInt = L85l3.toInt + 1 := by rw [ex_32]; exact z_add rfl rfl (by omega) (by omega)
                refine lv_iinc (v := x_32) (lv' := [(3, .int x_32), (0, .ref mo), (1, .int p0), (2, .int L35l2), (4, .long L107l4), (6, .int L107l6)]) hx hb dX12_laysChance_224 hl (k := 3) rfl (by rw [ex_32]; rfl) (by decide) rfl (fun ls hl => ?_)
                refine lv_goto (tgt := 85) hx hb dX12_laysChance_227 (by decide) ?_
                exact ih_14 _ _ _ _ (by omega) ⟨x_32, o_26, L85a1, rfl, (show 0 ≤ x_32.toInt ∧ x_32.toInt ≤ 1024 from by omega), hw_28, hP.sub (ws' := [(m26, .inl (k 0, 8, .inl o_26)), (m40, .inl (k 2, 1000, .inr (.inl L85a1))), (mo, .inr (12, [.int v0, .ref m1, .ref m2, .ref m3, .ref m4, .ref m5, .int v6, .int v7, .int v8, .int v9, .int v10, .long v11, .int v12, .int v13, .int v14, .int v15, .ref m16, .ref m17, .ref m18, .ref m19, .ref m20, .ref m21, .ref m22, .ref m23, .int o_2, .ref m25, .ref m26, .ref m27, .ref m28, .ref m29, .int v30, .ref m31, .ref m32, .ref m33, .int v34, .int v35, .int v36, .ref m37, .ref m38, .ref m39, .ref m40, .long L35f2x41])), (m17, .inl (k 0, 30, .inl f17)), (m18, .inl (k 0, 250, .inl f18)), (m19, .inl (k 0, 40, .inl f19)), (m22, .inl (k 0, 600, .inl f22)), (m25, .inl (k 0, 4, .inl o_3))]) [7, 0, 2, 3, 4, 5, 1, 6] rfl, hD.sub (ws' := [(m26, .inl (k 0, 8, .inl o_26)), (m40, .inl (k 2, 1000, .inr (.inl L85a1))), (mo, .inr (12, [.int v0, .ref m1, .ref m2, .ref m3, .ref m4, .ref m5, .int v6, .int v7, .int v8, .int v9, .int v10, .long v11, .int v12, .int v13, .int v14, .int v15, .ref m16, .ref m17, .ref m18, .ref m19, .ref m20, .ref m21, .ref m22, .ref m23, .int o_2, .ref m25, .ref m26, .ref m27, .ref m28, .ref m29, .int v30, .ref m31, .ref m32, .ref m33, .int v34, .int v35, .int v36, .ref m37, .ref m38, .ref m39, .ref m40, .long L35f2x41])), (m17, .inl (k 0, 30, .inl f17)), (m18, .inl (k 0, 250, .inl f18)), (m19, .inl (k 0, 40, .inl f19)), (m22, .inl (k 0, 600, .inl f22)), (m25, .inl (k 0, 4, .inl o_3))]) [7, 0, 2, 3, 4, 5, 1, 6] (by decide +kernel) rfl, hS, lv_sub hl [1, 2, 3, 0] rfl⟩
              · skip
                have zh_31 : x_30.toInt ≤ 999 := z_nlt h_31
                refine lv_aload_n hx hb dX12_laysChance_208 rfl (lv_at hl 0 rfl) ?_
                refine va_get (D := D) (ci := 12) (v := .ref m40) (C := RX12) (T := TX12) (N := 42) hx hb hts iT_X12 hown hK hP 2 rfl rfl 40 (by decide) (hts _ tw_6_93) (fun _ h9 => h9) rfl dX12_laysChance_209 ?_
                refine lv_aload_n hx hb dX12_laysChance_212 rfl (lv_at hl 0 rfl) ?_
                refine va_get (D := D) (ci := 12) (v := .ref m26) (C := RX12) (T := TX12) (N := 42) hx hb hts iT_X12 hown hK hP 2 rfl rfl 26 (by decide) (hts _ tw_6_79) (fun _ h9 => h9) rfl dX12_laysChance_213 ?_
                refine lv_iload_n hx hb dX12_laysChance_216 rfl (lv_at hl 1 rfl) ?_
                refine va_iald hx hb hK hP 7 0 rfl rfl (z_in (by omega) (by omega)) dX12_laysChance_217 ?_
                refine lv_topi (fun x_33 ex_33 => ?_)
                obtain rfl : x_30 = x_33 := ex_30.trans ex_33.symm
                refine lv_dup2_11 hx hb dX12_laysChance_218 rfl rfl ?_
                refine va_lald hx hb hK hP 0 2 rfl rfl (z_in (by omega) (by omega)) dX12_laysChance_219 ?_
                refine lv_topl (fun x_34 ex_34 => ?_)
                refine lv_lload hx hb dX12_laysChance_220 (lv_at hl 4 rfl) ?_
                refine lv_ladd hx hb dX12_laysChance_222 ?_
                refine lv_topl (fun x_35 ex_35 => ?_)
                refine va_last hx hb hK hP hD hS 0 2 rfl rfl (z_in (by omega) (by omega)) dX12_laysChance_223 (fun H locs hP hD hS => ?_)
                obtain ⟨g_36, eg_36⟩ : ∃ z : Nat → Int64, vp_updL L85a1 x_30.toNatClampNeg x_35 = z := ⟨_, rfl⟩
                have hP : va_P D vwCl [(m40, .inl (k 2, 1000, .inr (.inl (vp_updL L85a1 x_30.toNatClampNeg x_35)))), (m22, .inl (k 0, 600, .inl f22)), (mo, .inr (12, [.int v0, .ref m1, .ref m2, .ref m3, .ref m4, .ref m5, .int v6, .int v7, .int v8, .int v9, .int v10, .long v11, .int v12, .int v13, .int v14, .int v15, .ref m16, .ref m17, .ref m18, .ref m19, .ref m20, .ref m21, .ref m22, .ref m23, .int o_2, .ref m25, .ref m26, .ref m27, .ref m28, .ref m29, .int v30, .ref m31, .ref m32, .ref m33, .int v34, .int v35, .int v36, .ref m37, .ref m38, .ref m39, .ref m40, .long L35f2x41])), (m17, .inl (k 0, 30, .inl f17)), (m18, .inl (k 0, 250, .inl f18)), (m19, .inl (k 0, 40, .inl f19)), (m25, .inl (k 0, 4, .inl o_3)), (m26, .inl (k 0, 8, .inl o_26))] H := hP
                have hD : va_D A [(m40, .inl (k 2, 1000, .inr (.inl (vp_updL L85a1 x_30.toNatClampNeg x_35)))), (m22, .inl (k 0, 600, .inl f22)), (mo, .inr (12, [.int v0, .ref m1, .ref m2, .ref m3, .ref m4, .ref m5, .int v6, .int v7, .int v8, .int v9, .int v10, .long v11, .int v12, .int v13, .int v14, .int v15, .ref m16, .ref m17, .ref m18, .ref m19, .ref m20, .ref m21, .ref m22, .ref m23, .int o_2, .ref m25, .ref m26, .ref m27, .ref m28, .ref m29, .int v30, .ref m31, .ref m32, .ref m33, .int v34, .int v35, .int v36, .ref m37, .ref m38, .ref m39, .ref m40, .long L35f2x41])), (m17, .inl (k 0, 30, .inl f17)), (m18, .inl (k 0, 250, .inl f18)), (m19, .inl (k 0, 40, .inl f19)), (m25, .inl (k 0, 4, .inl o_3)), (m26, .inl (k 0, 8, .inl o_26))] := hD
                rw [eg_36] at hP hD
                obtain ⟨x_37, ex_37⟩ : ∃ y : Int32, y = L85l3 + 1 := ⟨_, rfl⟩
                have zx_37 : x_37.toInt = L85l3.toInt + 1 := by rw [ex_37]; exact z_add rfl rfl (by omega) (by omega)
                refine lv_iinc (v := x_37) (lv' := [(3, .int x_37), (0, .ref mo), (1, .int p0), (2, .int L35l2), (4, .long L107l4), (6, .int L107l6)]) hx hb dX12_laysChance_224 hl (k := 3) rfl (by rw [ex_37]; rfl) (by decide) rfl (fun ls hl => ?_)
                refine lv_goto (tgt := 85) hx hb dX12_laysChance_227 (by decide) ?_
                exact ih_14 _ _ _ _ (by omega) ⟨x_37, o_26, g_36, rfl, (show 0 ≤ x_37.toInt ∧ x_37.toInt ≤ 1024 from by omega), hw_28, hP.sub (ws' := [(m26, .inl (k 0, 8, .inl o_26)), (m40, .inl (k 2, 1000, .inr (.inl g_36))), (mo, .inr (12, [.int v0, .ref m1, .ref m2, .ref m3, .ref m4, .ref m5, .int v6, .int v7, .int v8, .int v9, .int v10, .long v11, .int v12, .int v13, .int v14, .int v15, .ref m16, .ref m17, .ref m18, .ref m19, .ref m20, .ref m21, .ref m22, .ref m23, .int o_2, .ref m25, .ref m26, .ref m27, .ref m28, .ref m29, .int v30, .ref m31, .ref m32, .ref m33, .int v34, .int v35, .int v36, .ref m37, .ref m38, .ref m39, .ref m40, .long L35f2x41])), (m17, .inl (k 0, 30, .inl f17)), (m18, .inl (k 0, 250, .inl f18)), (m19, .inl (k 0, 40, .inl f19)), (m22, .inl (k 0, 600, .inl f22)), (m25, .inl (k 0, 4, .inl o_3))]) [7, 0, 2, 3, 4, 5, 1, 6] rfl, hD.sub (ws' := [(m26, .inl (k 0, 8, .inl o_26)), (m40, .inl (k 2, 1000, .inr (.inl g_36))), (mo, .inr (12, [.int v0, .ref m1, .ref m2, .ref m3, .ref m4, .ref m5, .int v6, .int v7, .int v8, .int v9, .int v10, .long v11, .int v12, .int v13, .int v14, .int v15, .ref m16, .ref m17, .ref m18, .ref m19, .ref m20, .ref m21, .ref m22, .ref m23, .int o_2, .ref m25, .ref m26, .ref m27, .ref m28, .ref m29, .int v30, .ref m31, .ref m32, .ref m33, .int v34, .int v35, .int v36, .ref m37, .ref m38, .ref m39, .ref m40, .long L35f2x41])), (m17, .inl (k 0, 30, .inl f17)), (m18, .inl (k 0, 250, .inl f18)), (m19, .inl (k 0, 40, .inl f19)), (m22, .inl (k 0, 600, .inl f22)), (m25, .inl (k 0, 4, .inl o_3))]) [7, 0, 2, 3, 4, 5, 1, 6] (by decide +kernel) rfl, hS, lv_sub hl [1, 2, 3, 0] rfl⟩
            · skip
              have zh_24 : L107l4.toInt = 0 := zL_eq h_24 rfl rfl
              refine lv_goto (tgt := 224) hx hb dX12_laysChance_184 (by decide) ?_
              obtain ⟨x_38, ex_38⟩ : ∃ y : Int32, y = L85l3 + 1 := ⟨_, rfl⟩
              have zx_38 : x_38.toInt = L85l3.toInt + 1 := by rw [ex_38]; exact z_add rfl rfl (by omega) (by omega)
              refine lv_iinc (v := x_38) (lv' := [(3, .int x_38), (0, .ref mo), (1, .int p0), (2, .int L35l2), (4, .long L107l4), (6, .int L107l6)]) hx hb dX12_laysChance_224 hl (k := 3) rfl (by rw [ex_38]; rfl) (by decide) rfl (fun ls hl => ?_)
              refine lv_goto (tgt := 85) hx hb dX12_laysChance_227 (by decide) ?_
              exact ih_14 _ _ _ _ (by omega) ⟨x_38, L85a0, L85a1, rfl, (show 0 ≤ x_38.toInt ∧ x_38.toInt ≤ 1024 from by omega), L85a0h0, hP.sub (ws' := [(m26, .inl (k 0, 8, .inl L85a0)), (m40, .inl (k 2, 1000, .inr (.inl L85a1))), (mo, .inr (12, [.int v0, .ref m1, .ref m2, .ref m3, .ref m4, .ref m5, .int v6, .int v7, .int v8, .int v9, .int v10, .long v11, .int v12, .int v13, .int v14, .int v15, .ref m16, .ref m17, .ref m18, .ref m19, .ref m20, .ref m21, .ref m22, .ref m23, .int o_2, .ref m25, .ref m26, .ref m27, .ref m28, .ref m29, .int v30, .ref m31, .ref m32, .ref m33, .int v34, .int v35, .int v36, .ref m37, .ref m38, .ref m39, .ref m40, .long L35f2x41])), (m17, .inl (k 0, 30, .inl f17)), (m18, .inl (k 0, 250, .inl f18)), (m19, .inl (k 0, 40, .inl f19)), (m22, .inl (k 0, 600, .inl f22)), (m25, .inl (k 0, 4, .inl o_3))]) [0, 1, 2, 3, 4, 5, 6, 7] rfl, hD.sub (ws' := [(m26, .inl (k 0, 8, .inl L85a0)), (m40, .inl (k 2, 1000, .inr (.inl L85a1))), (mo, .inr (12, [.int v0, .ref m1, .ref m2, .ref m3, .ref m4, .ref m5, .int v6, .int v7, .int v8, .int v9, .int v10, .long v11, .int v12, .int v13, .int v14, .int v15, .ref m16, .ref m17, .ref m18, .ref m19, .ref m20, .ref m21, .ref m22, .ref m23, .int o_2, .ref m25, .ref m26, .ref m27, .ref m28, .ref m29, .int v30, .ref m31, .ref m32, .ref m33, .int v34, .int v35, .int v36, .ref m37, .ref m38, .ref m39, .ref m40, .long L35f2x41])), (m17, .inl (k 0, 30, .inl f17)), (m18, .inl (k 0, 250, .inl f18)), (m19, .inl (k 0, 40, .inl f19)), (m22, .inl (k 0, 600, .inl f22)), (m25, .inl (k 0, 4, .inl o_3))]) [0, 1, 2, 3, 4, 5, 6, 7] (by decide +kernel) rfl, hS, lv_sub hl [1, 2, 3, 0] rfl⟩
          · skip
            have zh_23 : L107l6.toInt < x_12.toInt := z_nle h_23
            refine lv_iload_n hx hb dX12_laysChance_118 rfl (lv_at hl 2 rfl) ?_
            refine lv_iload hx hb dX12_laysChance_119 (lv_at hl 5 rfl) ?_
            obtain ⟨hPc, hDc, hFc⟩ := sub3 hP hD hS hA (ws' := []) [] (by decide +kernel) rfl
            refine va_calli (va_runS (As := [.int L35l2, .int L107l6]) (rest := []) ⟨hx, hb, hml, hown, hts⟩ (c_X12_isBit l D k L35l2 L107l6 H.size) (va_cwS 2 hts (gS tw_7_107 tw_7_108 tw_1_13 tw_7_109) rfl rfl rfl hdS_X12_isBit ⟨Nat.le_of_ble_eq_true rfl, Nat.le_of_ble_eq_true rfl⟩) (cz_S hK hPc hDc hN [.int L35l2, .int L107l6]) rfl rfl hl.1 rfl (lv_room (Nat.le_of_ble_eq_true rfl)) dX12_laysChance_121 ⟨Nat.le_of_ble_eq_true rfl, Nat.le_of_ble_eq_true rfl⟩) hS (fun q _ h => hFc q h) hFc (fun r_39 uZ tZ H1 locs ht hvm hw hB hz1 hk1 hS => ?_)
            obtain ⟨hP1, hK1, hD1⟩ := hB
            rw [ht] at hP1
            obtain ⟨hP, hD⟩ := va_join (wr := [(m26, .inl (k 0, 8, .inl L85a0)), (m40, .inl (k 2, 1000, .inr (.inl L85a1))), (mo, .inr (12, [.int v0, .ref m1, .ref m2, .ref m3, .ref m4, .ref m5, .int v6, .int v7, .int v8, .int v9, .int v10, .long v11, .int v12, .int v13, .int v14, .int v15, .ref m16, .ref m17, .ref m18, .ref m19, .ref m20, .ref m21, .ref m22, .ref m23, .int o_2, .ref m25, .ref m26, .ref m27, .ref m28, .ref m29, .int v30, .ref m31, .ref m32, .ref m33, .int v34, .int v35, .int v36, .ref m37, .ref m38, .ref m39, .ref m40, .long L35f2x41])), (m17, .inl (k 0, 30, .inl f17)), (m18, .inl (k 0, 250, .inl f18)), (m19, .inl (k 0, 40, .inl f19)), (m22, .inl (k 0, 600, .inl f22)), (m25, .inl (k 0, 4, .inl o_3))]) (w1 := []) hP hD [] [0, 1, 2, 3, 4, 5, 6, 7] rfl rfl (by decide +kernel) (by decide +kernel) hk1 hFc hP1 hD1
            clear hK1 hP1 hD1 hPc hDc hFc
            clear hk1 hz1 ht hvm
            have hP : va_P D vwCl [(m26, .inl (k 0, 8, .inl L85a0)), (m40, .inl (k 2, 1000, .inr (.inl L85a1))), (mo, .inr (12, [.int v0, .ref m1, .ref m2, .ref m3, .ref m4, .ref m5, .int v6, .int v7, .int v8, .int v9, .int v10, .long v11, .int v12, .int v13, .int v14, .int v15, .ref m16, .ref m17, .ref m18, .ref m19, .ref m20, .ref m21, .ref m22, .ref m23, .int o_2, .ref m25, .ref m26, .ref m27, .ref m28, .ref m29, .int v30, .ref m31, .ref m32, .ref m33, .int v34, .int v35, .int v36, .ref m37, .ref m38, .ref m39, .ref m40, .long L35f2x41])), (m17, .inl (k 0, 30, .inl f17)), (m18, .inl (k 0, 250, .inl f18)), (m19, .inl (k 0, 40, .inl f19)), (m22, .inl (k 0, 600, .inl f22)), (m25, .inl (k 0, 4, .inl o_3))] H1 := hP
            have hD : va_D A [(m26, .inl (k 0, 8, .inl L85a0)), (m40, .inl (k 2, 1000, .inr (.inl L85a1))), (mo, .inr (12, [.int v0, .ref m1, .ref m2, .ref m3, .ref m4, .ref m5, .int v6, .int v7, .int v8, .int v9, .int v10, .long v11, .int v12, .int v13, .int v14, .int v15, .ref m16, .ref m17, .ref m18, .ref m19, .ref m20, .ref m21, .ref m22, .ref m23, .int o_2, .ref m25, .ref m26, .ref m27, .ref m28, .ref m29, .int v30, .ref m31, .ref m32, .ref m33, .int v34, .int v35, .int v36, .ref m37, .ref m38, .ref m39, .ref m40, .long L35f2x41])), (m17, .inl (k 0, 30, .inl f17)), (m18, .inl (k 0, 250, .inl f18)), (m19, .inl (k 0, 40, .inl f19)), (m22, .inl (k 0, 600, .inl f22)), (m25, .inl (k 0, 4, .inl o_3))] := hD
            generalize H1 = H at hP hS ⊢
            have hw_40 : (0 ≤ r_39.toInt ∧ r_39.toInt ≤ 1) ∧ (r_39 = bitOf L35l2 L107l6) := hw
            obtain ⟨hw_41, hw_42⟩ := hw_40
            clear hw
            refine lv_if_eq (tgt := 171) hx hb dX12_laysChance_124 (by decide) (fun h_43 => ?_) (fun h_43 => ?_)
            · skip
              have zh_43 : r_39.toInt = 0 := z_eq h_43
              obtain ⟨x_44, ex_44⟩ : ∃ y : Int32, y = L107l6 + 1 := ⟨_, rfl⟩
              have zx_44 : x_44.toInt = L107l6.toInt + 1 := by rw [ex_44]; exact z_add rfl rfl (by omega) (by omega)
              refine lv_iinc (v := x_44) (lv' := [(6, .int x_44), (0, .ref mo), (1, .int p0), (2, .int L35l2), (3, .int L85l3), (4, .long L107l4)]) hx hb dX12_laysChance_171 hl (k := 5) rfl (by rw [ex_44]; rfl) (by decide) rfl (fun ls hl => ?_)
              refine lv_goto (tgt := 107) hx hb dX12_laysChance_174 (by decide) ?_
              exact ih_20 _ _ _ _ (by omega) ⟨L107l4, x_44, rfl, (show 0 ≤ x_44.toInt ∧ x_44.toInt ≤ 10 from by omega), hP.sub (ws' := [(m26, .inl (k 0, 8, .inl L85a0)), (m40, .inl (k 2, 1000, .inr (.inl L85a1))), (mo, .inr (12, [.int v0, .ref m1, .ref m2, .ref m3, .ref m4, .ref m5, .int v6, .int v7, .int v8, .int v9, .int v10, .long v11, .int v12, .int v13, .int v14, .int v15, .ref m16, .ref m17, .ref m18, .ref m19, .ref m20, .ref m21, .ref m22, .ref m23, .int o_2, .ref m25, .ref m26, .ref m27, .ref m28, .ref m29, .int v30, .ref m31, .ref m32, .ref m33, .int v34, .int v35, .int v36, .ref m37, .ref m38, .ref m39, .ref m40, .long L35f2x41])), (m17, .inl (k 0, 30, .inl f17)), (m18, .inl (k 0, 250, .inl f18)), (m19, .inl (k 0, 40, .inl f19)), (m22, .inl (k 0, 600, .inl f22)), (m25, .inl (k 0, 4, .inl o_3))]) [0, 1, 2, 3, 4, 5, 6, 7] rfl, hD.sub (ws' := [(m26, .inl (k 0, 8, .inl L85a0)), (m40, .inl (k 2, 1000, .inr (.inl L85a1))), (mo, .inr (12, [.int v0, .ref m1, .ref m2, .ref m3, .ref m4, .ref m5, .int v6, .int v7, .int v8, .int v9, .int v10, .long v11, .int v12, .int v13, .int v14, .int v15, .ref m16, .ref m17, .ref m18, .ref m19, .ref m20, .ref m21, .ref m22, .ref m23, .int o_2, .ref m25, .ref m26, .ref m27, .ref m28, .ref m29, .int v30, .ref m31, .ref m32, .ref m33, .int v34, .int v35, .int v36, .ref m37, .ref m38, .ref m39, .ref m40, .long L35f2x41])), (m17, .inl (k 0, 30, .inl f17)), (m18, .inl (k 0, 250, .inl f18)), (m19, .inl (k 0, 40, .inl f19)), (m22, .inl (k 0, 600, .inl f22)), (m25, .inl (k 0, 4, .inl o_3))]) [0, 1, 2, 3, 4, 5, 6, 7] (by decide +kernel) rfl, hS, lv_sub hl [1, 2, 3, 4, 5, 0] rfl⟩
            · skip
              have zh_43 : ¬ r_39.toInt = 0 := z_ne h_43
              refine lv_lload hx hb dX12_laysChance_127 (lv_at hl 4 rfl) ?_
              refine lv_iload_n hx hb dX12_laysChance_129 rfl (lv_at hl 3 rfl) ?_
              refine lv_iload hx hb dX12_laysChance_130 (lv_at hl 5 rfl) ?_
              obtain ⟨hPc, hDc, hFc⟩ := sub3 hP hD hS hA (ws' := []) [] (by decide +kernel) rfl
              refine va_calli (va_runS (As := [.int L85l3, .int L107l6]) (rest := [.long L107l4]) ⟨hx, hb, hml, hown, hts⟩ (c_X12_isBit l D k L85l3 L107l6 H.size) (va_cwS 2 hts (gS tw_7_107 tw_7_108 tw_1_13 tw_7_109) rfl rfl rfl hdS_X12_isBit ⟨Nat.le_of_ble_eq_true rfl, Nat.le_of_ble_eq_true rfl⟩) (cz_S hK hPc hDc hN [.int L85l3, .int L107l6]) rfl rfl hl.1 rfl (lv_room (Nat.le_of_ble_eq_true rfl)) dX12_laysChance_132 ⟨Nat.le_of_ble_eq_true rfl, Nat.le_of_ble_eq_true rfl⟩) hS (fun q _ h => hFc q h) hFc (fun r_45 uZ tZ H1 locs ht hvm hw hB hz1 hk1 hS => ?_)
              obtain ⟨hP1, hK1, hD1⟩ := hB
              rw [ht] at hP1
              obtain ⟨hP, hD⟩ := va_join (wr := [(m26, .inl (k 0, 8, .inl L85a0)), (m40, .inl (k 2, 1000, .inr (.inl L85a1))), (mo, .inr (12, [.int v0, .ref m1, .ref m2, .ref m3, .ref m4, .ref m5, .int v6, .int v7, .int v8, .int v9, .int v10, .long v11, .int v12, .int v13, .int v14, .int v15, .ref m16, .ref m17, .ref m18, .ref m19, .ref m20, .ref m21, .ref m22, .ref m23, .int o_2, .ref m25, .ref m26, .ref m27, .ref m28, .ref m29, .int v30, .ref m31, .ref m32, .ref m33, .int v34, .int v35, .int v36, .ref m37, .ref m38, .ref m39, .ref m40, .long L35f2x41])), (m17, .inl (k 0, 30, .inl f17)), (m18, .inl (k 0, 250, .inl f18)), (m19, .inl (k 0, 40, .inl f19)), (m22, .inl (k 0, 600, .inl f22)), (m25, .inl (k 0, 4, .inl o_3))]) (w1 := []) hP hD [] [0, 1, 2, 3, 4, 5, 6, 7] rfl rfl (by decide +kernel) (by decide +kernel) hk1 hFc hP1 hD1
              clear hK1 hP1 hD1 hPc hDc hFc
              clear hk1 hz1 ht hvm
              have hP : va_P D vwCl [(m26, .inl (k 0, 8, .inl L85a0)), (m40, .inl (k 2, 1000, .inr (.inl L85a1))), (mo, .inr (12, [.int v0, .ref m1, .ref m2, .ref m3, .ref m4, .ref m5, .int v6, .int v7, .int v8, .int v9, .int v10, .long v11, .int v12, .int v13, .int v14, .int v15, .ref m16, .ref m17, .ref m18, .ref m19, .ref m20, .ref m21, .ref m22, .ref m23, .int o_2, .ref m25, .ref m26, .ref m27, .ref m28, .ref m29, .int v30, .ref m31, .ref m32, .ref m33, .int v34, .int v35, .int v36, .ref m37, .ref m38, .ref m39, .ref m40, .long L35f2x41])), (m17, .inl (k 0, 30, .inl f17)), (m18, .inl (k 0, 250, .inl f18)), (m19, .inl (k 0, 40, .inl f19)), (m22, .inl (k 0, 600, .inl f22)), (m25, .inl (k 0, 4, .inl o_3))] H1 := hP
              have hD : va_D A [(m26, .inl (k 0, 8, .inl L85a0)), (m40, .inl (k 2, 1000, .inr (.inl L85a1))), (mo, .inr (12, [.int v0, .ref m1, .ref m2, .ref m3, .ref m4, .ref m5, .int v6, .int v7, .int v8, .int v9, .int v10, .long v11, .int v12, .int v13, .int v14, .int v15, .ref m16, .ref m17, .ref m18, .ref m19, .ref m20, .ref m21, .ref m22, .ref m23, .int o_2, .ref m25, .ref m26, .ref m27, .ref m28, .ref m29, .int v30, .ref m31, .ref m32, .ref m33, .int v34, .int v35, .int v36, .ref m37, .ref m38, .ref m39, .ref m40, .long L35f2x41])), (m17, .inl (k 0, 30, .inl f17)), (m18, .inl (k 0, 250, .inl f18)), (m19, .inl (k 0, 40, .inl f19)), (m22, .inl (k 0, 600, .inl f22)), (m25, .inl (k 0, 4, .inl o_3))] := hD
              generalize H1 = H at hP hS ⊢
              have hw_46 : (0 ≤ r_45.toInt ∧ r_45.toInt ≤ 1) ∧ (r_45 = bitOf L85l3 L107l6) := hw
              obtain ⟨hw_47, hw_48⟩ := hw_46
              clear hw
              refine lv_if_eq (tgt := 153) hx hb dX12_laysChance_135 (by decide) (fun h_49 => ?_) (fun h_49 => ?_)
              · skip
                have zh_49 : r_45.toInt = 0 := z_eq h_49
                refine lv_bipush (v := 10) hx hb dX12_laysChance_153 (by decide) ?_
                refine lv_aload_n hx hb dX12_laysChance_155 rfl (lv_at hl 0 rfl) ?_
                refine va_get (D := D) (ci := 12) (v := .ref m18) (C := RX12) (T := TX12) (N := 42) hx hb hts iT_X12 hown hK hP 2 rfl rfl 18 (by decide) (hts _ tw_6_71) (fun _ h9 => h9) rfl dX12_laysChance_156 ?_
                refine lv_iconst (v := 5) hx hb dX12_laysChance_159 (by decide) ?_
                refine lv_iload hx hb dX12_laysChance_160 (lv_at hl 5 rfl) ?_
                refine lv_imul hx hb dX12_laysChance_162 ?_
                refine lv_topi (fun x_50 ex_50 => ?_)
                have zx_50 : x_50.toInt = 5 * L107l6.toInt := by rw [ex_50]; exact z_mul rfl rfl (by omega) (by omega)
                refine lv_iconst (v := 3) hx hb dX12_laysChance_163 (by decide) ?_
                refine lv_iadd hx hb dX12_laysChance_164 ?_
                refine lv_topi (fun x_51 ex_51 => ?_)
                have zx_51 : x_51.toInt = x_50.toInt + 3 := by rw [ex_51]; exact z_add rfl rfl (by omega) (by omega)
                refine va_iald hx hb hK hP 4 0 rfl rfl (z_in (by omega) (by omega)) dX12_laysChance_165 ?_
                refine lv_topi (fun x_52 ex_52 => ?_)
                have zx_52r3 : 0 ≤ x_52.toInt ∧ x_52.toInt ≤ 10 := by rw [ex_52]; exact PR.ld hp_f18_3 (by omega) (by omega) (by omega)
                refine lv_isub hx hb dX12_laysChance_166 ?_
                refine lv_topi (fun x_53 ex_53 => ?_)
                have zx_53 : x_53.toInt = 10 - x_52.toInt := by rw [ex_53]; exact z_sub rfl rfl (by omega) (by omega)
                refine lv_i2l (v := x_53.toInt64) hx hb dX12_laysChance_167 rfl ?_
                refine lv_lmul hx hb dX12_laysChance_168 ?_
                refine lv_topl (fun x_54 ex_54 => ?_)
                refine lv_lstore (lv' := [(4, .long x_54), (0, .ref mo), (1, .int p0), (2, .int L35l2), (3, .int L85l3), (6, .int L107l6)]) hx hb dX12_laysChance_169 hl (by decide) rfl (fun ls hl => ?_)
                obtain ⟨x_55, ex_55⟩ : ∃ y : Int32, y = L107l6 + 1 := ⟨_, rfl⟩
                have zx_55 : x_55.toInt = L107l6.toInt + 1 := by rw [ex_55]; exact z_add rfl rfl (by omega) (by omega)
                refine lv_iinc (v := x_55) (lv' := [(6, .int x_55), (4, .long x_54), (0, .ref mo), (1, .int p0), (2, .int L35l2), (3, .int L85l3)]) hx hb dX12_laysChance_171 hl (k := 5) rfl (by rw [ex_55]; rfl) (by decide) rfl (fun ls hl => ?_)
                refine lv_goto (tgt := 107) hx hb dX12_laysChance_174 (by decide) ?_
                exact ih_20 _ _ _ _ (by omega) ⟨x_54, x_55, rfl, (show 0 ≤ x_55.toInt ∧ x_55.toInt ≤ 10 from by omega), hP.sub (ws' := [(m26, .inl (k 0, 8, .inl L85a0)), (m40, .inl (k 2, 1000, .inr (.inl L85a1))), (mo, .inr (12, [.int v0, .ref m1, .ref m2, .ref m3, .ref m4, .ref m5, .int v6, .int v7, .int v8, .int v9, .int v10, .long v11, .int v12, .int v13, .int v14, .int v15, .ref m16, .ref m17, .ref m18, .ref m19, .ref m20, .ref m21, .ref m22, .ref m23, .int o_2, .ref m25, .ref m26, .ref m27, .ref m28, .ref m29, .int v30, .ref m31, .ref m32, .ref m33, .int v34, .int v35, .int v36, .ref m37, .ref m38, .ref m39, .ref m40, .long L35f2x41])), (m17, .inl (k 0, 30, .inl f17)), (m18, .inl (k 0, 250, .inl f18)), (m19, .inl (k 0, 40, .inl f19)), (m22, .inl (k 0, 600, .inl f22)), (m25, .inl (k 0, 4, .inl o_3))]) [0, 1, 2, 3, 4, 5, 6, 7] rfl, hD.sub (ws' := [(m26, .inl (k 0, 8, .inl L85a0)), (m40, .inl (k 2, 1000, .inr (.inl L85a1))), (mo, .inr (12, [.int v0, .ref m1, .ref m2, .ref m3, .ref m4, .ref m5, .int v6, .int v7, .int v8, .int v9, .int v10, .long v11, .int v12, .int v13, .int v14, .int v15, .ref m16, .ref m17, .ref m18, .ref m19, .ref m20, .ref m21, .ref m22, .ref m23, .int o_2, .ref m25, .ref m26, .ref m27, .ref m28, .ref m29, .int v30, .ref m31, .ref m32, .ref m33, .int v34, .int v35, .int v36, .ref m37, .ref m38, .ref m39, .ref m40, .long L35f2x41])), (m17, .inl (k 0, 30, .inl f17)), (m18, .inl (k 0, 250, .inl f18)), (m19, .inl (k 0, 40, .inl f19)), (m22, .inl (k 0, 600, .inl f22)), (m25, .inl (k 0, 4, .inl o_3))]) [0, 1, 2, 3, 4, 5, 6, 7] (by decide +kernel) rfl, hS, lv_sub hl [2, 3, 4, 5, 1, 0] rfl⟩
              · skip
                have zh_49 : ¬ r_45.toInt = 0 := z_ne h_49
                refine lv_aload_n hx hb dX12_laysChance_138 rfl (lv_at hl 0 rfl) ?_
                refine va_get (D := D) (ci := 12) (v := .ref m18) (C := RX12) (T := TX12) (N := 42) hx hb hts iT_X12 hown hK hP 2 rfl rfl 18 (by decide) (hts _ tw_6_71) (fun _ h9 => h9) rfl dX12_laysChance_139 ?_
                refine lv_iconst (v := 5) hx hb dX12_laysChance_142 (by decide) ?_
                refine lv_iload hx hb dX12_laysChance_143 (lv_at hl 5 rfl) ?_
                refine lv_imul hx hb dX12_laysChance_145 ?_
                refine lv_topi (fun x_56 ex_56 => ?_)
                have zx_56 : x_56.toInt = 5 * L107l6.toInt := by rw [ex_56]; exact z_mul rfl rfl (by omega) (by omega)
                refine lv_iconst (v := 3) hx hb dX12_laysChance_146 (by decide) ?_
                refine lv_iadd hx hb dX12_laysChance_147 ?_
                refine lv_topi (fun x_57 ex_57 => ?_)
                have zx_57 : x_57.toInt = x_56.toInt + 3 := by rw [ex_57]; exact z_add rfl rfl (by omega) (by omega)
                refine va_iald hx hb hK hP 4 0 rfl rfl (z_in (by omega) (by omega)) dX12_laysChance_148 ?_
                refine lv_topi (fun x_58 ex_58 => ?_)
                have zx_58r3 : 0 ≤ x_58.toInt ∧ x_58.toInt ≤ 10 := by rw [ex_58]; exact PR.ld hp_f18_3 (by omega) (by omega) (by omega)
                refine lv_i2l (v := x_58.toInt64) hx hb dX12_laysChance_149 rfl ?_
                refine lv_goto (tgt := 168) hx hb dX12_laysChance_150 (by decide) ?_
                refine lv_lmul hx hb dX12_laysChance_168 ?_
                refine lv_topl (fun x_59 ex_59 => ?_)
                refine lv_lstore (lv' := [(4, .long x_59), (0, .ref mo), (1, .int p0), (2, .int L35l2), (3, .int L85l3), (6, .int L107l6)]) hx hb dX12_laysChance_169 hl (by decide) rfl (fun ls hl => ?_)
                obtain ⟨x_60, ex_60⟩ : ∃ y : Int32, y = L107l6 + 1 := ⟨_, rfl⟩
                have zx_60 : x_60.toInt = L107l6.toInt + 1 := by rw [ex_60]; exact z_add rfl rfl (by omega) (by omega)
                refine lv_iinc (v := x_60) (lv' := [(6, .int x_60), (4, .long x_59), (0, .ref mo), (1, .int p0), (2, .int L35l2), (3, .int L85l3)]) hx hb dX12_laysChance_171 hl (k := 5) rfl (by rw [ex_60]; rfl) (by decide) rfl (fun ls hl => ?_)
                refine lv_goto (tgt := 107) hx hb dX12_laysChance_174 (by decide) ?_
                exact ih_20 _ _ _ _ (by omega) ⟨x_59, x_60, rfl, (show 0 ≤ x_60.toInt ∧ x_60.toInt ≤ 10 from by omega), hP.sub (ws' := [(m26, .inl (k 0, 8, .inl L85a0)), (m40, .inl (k 2, 1000, .inr (.inl L85a1))), (mo, .inr (12, [.int v0, .ref m1, .ref m2, .ref m3, .ref m4, .ref m5, .int v6, .int v7, .int v8, .int v9, .int v10, .long v11, .int v12, .int v13, .int v14, .int v15, .ref m16, .ref m17, .ref m18, .ref m19, .ref m20, .ref m21, .ref m22, .ref m23, .int o_2, .ref m25, .ref m26, .ref m27, .ref m28, .ref m29, .int v30, .ref m31, .ref m32, .ref m33, .int v34, .int v35, .int v36, .ref m37, .ref m38, .ref m39, .ref m40, .long L35f2x41])), (m17, .inl (k 0, 30, .inl f17)), (m18, .inl (k 0, 250, .inl f18)), (m19, .inl (k 0, 40, .inl f19)), (m22, .inl (k 0, 600, .inl f22)), (m25, .inl (k 0, 4, .inl o_3))]) [0, 1, 2, 3, 4, 5, 6, 7] rfl, hD.sub (ws' := [(m26, .inl (k 0, 8, .inl L85a0)), (m40, .inl (k 2, 1000, .inr (.inl L85a1))), (mo, .inr (12, [.int v0, .ref m1, .ref m2, .ref m3, .ref m4, .ref m5, .int v6, .int v7, .int v8, .int v9, .int v10, .long v11, .int v12, .int v13, .int v14, .int v15, .ref m16, .ref m17, .ref m18, .ref m19, .ref m20, .ref m21, .ref m22, .ref m23, .int o_2, .ref m25, .ref m26, .ref m27, .ref m28, .ref m29, .int v30, .ref m31, .ref m32, .ref m33, .int v34, .int v35, .int v36, .ref m37, .ref m38, .ref m39, .ref m40, .long L35f2x41])), (m17, .inl (k 0, 30, .inl f17)), (m18, .inl (k 0, 250, .inl f18)), (m19, .inl (k 0, 40, .inl f19)), (m22, .inl (k 0, 600, .inl f22)), (m25, .inl (k 0, 4, .inl o_3))]) [0, 1, 2, 3, 4, 5, 6, 7] (by decide +kernel) rfl, hS, lv_sub hl [2, 3, 4, 5, 1, 0] rfl⟩
        · skip
          have zh_19 : ¬ x_18.toInt = 0 := z_ne h_19
          refine lv_goto (tgt := 224) hx hb dX12_laysChance_98 (by decide) ?_
          obtain ⟨x_61, ex_61⟩ : ∃ y : Int32, y = L85l3 + 1 := ⟨_, rfl⟩
          have zx_61 : x_61.toInt = L85l3.toInt + 1 := by rw [ex_61]; exact z_add rfl rfl (by omega) (by omega)
          refine lv_iinc (v := x_61) (lv' := [(3, .int x_61), (0, .ref mo), (1, .int p0), (2, .int L35l2)]) hx hb dX12_laysChance_224 hl (k := 3) rfl (by rw [ex_61]; rfl) (by decide) rfl (fun ls hl => ?_)
          refine lv_goto (tgt := 85) hx hb dX12_laysChance_227 (by decide) ?_
          exact ih_14 _ _ _ _ (by omega) ⟨x_61, L85a0, L85a1, rfl, (show 0 ≤ x_61.toInt ∧ x_61.toInt ≤ 1024 from by omega), L85a0h0, hP.sub (ws' := [(m26, .inl (k 0, 8, .inl L85a0)), (m40, .inl (k 2, 1000, .inr (.inl L85a1))), (mo, .inr (12, [.int v0, .ref m1, .ref m2, .ref m3, .ref m4, .ref m5, .int v6, .int v7, .int v8, .int v9, .int v10, .long v11, .int v12, .int v13, .int v14, .int v15, .ref m16, .ref m17, .ref m18, .ref m19, .ref m20, .ref m21, .ref m22, .ref m23, .int o_2, .ref m25, .ref m26, .ref m27, .ref m28, .ref m29, .int v30, .ref m31, .ref m32, .ref m33, .int v34, .int v35, .int v36, .ref m37, .ref m38, .ref m39, .ref m40, .long L35f2x41])), (m17, .inl (k 0, 30, .inl f17)), (m18, .inl (k 0, 250, .inl f18)), (m19, .inl (k 0, 40, .inl f19)), (m22, .inl (k 0, 600, .inl f22)), (m25, .inl (k 0, 4, .inl o_3))]) [0, 1, 2, 3, 4, 5, 6, 7] rfl, hD.sub (ws' := [(m26, .inl (k 0, 8, .inl L85a0)), (m40, .inl (k 2, 1000, .inr (.inl L85a1))), (mo, .inr (12, [.int v0, .ref m1, .ref m2, .ref m3, .ref m4, .ref m5, .int v6, .int v7, .int v8, .int v9, .int v10, .long v11, .int v12, .int v13, .int v14, .int v15, .ref m16, .ref m17, .ref m18, .ref m19, .ref m20, .ref m21, .ref m22, .ref m23, .int o_2, .ref m25, .ref m26, .ref m27, .ref m28, .ref m29, .int v30, .ref m31, .ref m32, .ref m33, .int v34, .int v35, .int v36, .ref m37, .ref m38, .ref m39, .ref m40, .long L35f2x41])), (m17, .inl (k 0, 30, .inl f17)), (m18, .inl (k 0, 250, .inl f18)), (m19, .inl (k 0, 40, .inl f19)), (m22, .inl (k 0, 600, .inl f22)), (m25, .inl (k 0, 4, .inl o_3))]) [0, 1, 2, 3, 4, 5, 6, 7] (by decide +kernel) rfl, hS, lv_sub hl [1, 2, 3, 0] rfl⟩
    · skip
      have zh_13 : L35l3.toInt < x_12.toInt := z_nle h_13
      refine lv_aload_n hx hb dX12_laysChance_45 rfl (lv_at hl 0 rfl) ?_
      refine va_get (D := D) (ci := 12) (v := .int o_2) (C := RX12) (T := TX12) (N := 42) hx hb hts iT_X12 hown hK hP 2 rfl rfl 24 (by decide) (hts _ tw_6_77) (fun _ h9 => h9) rfl dX12_laysChance_46 ?_
      refine lv_iload_n hx hb dX12_laysChance_49 rfl (lv_at hl 3 rfl) ?_
      obtain ⟨hPc, hDc, hFc⟩ := sub3 hP hD hS hA (ws' := []) [] (by decide +kernel) rfl
      refine va_calli (va_runS (As := [.int o_2, .int L35l3]) (rest := []) ⟨hx, hb, hml, hown, hts⟩ (c_X12_isBit l D k o_2 L35l3 H.size) (va_cwS 2 hts (gS tw_7_107 tw_7_108 tw_1_13 tw_7_109) rfl rfl rfl hdS_X12_isBit ⟨Nat.le_of_ble_eq_true rfl, Nat.le_of_ble_eq_true rfl⟩) (cz_S hK hPc hDc hN [.int o_2, .int L35l3]) rfl rfl hl.1 rfl (lv_room (Nat.le_of_ble_eq_true rfl)) dX12_laysChance_50 ⟨Nat.le_of_ble_eq_true rfl, Nat.le_of_ble_eq_true rfl⟩) hS (fun q _ h => hFc q h) hFc (fun r_62 uZ tZ H1 locs ht hvm hw hB hz1 hk1 hS => ?_)
      obtain ⟨hP1, hK1, hD1⟩ := hB
      rw [ht] at hP1
      obtain ⟨hP, hD⟩ := va_join (wr := [(m26, .inl (k 0, 8, .inl f26)), (m40, .inl (k 2, 1000, .inr (.inl L6a1))), (mo, .inr (12, [.int v0, .ref m1, .ref m2, .ref m3, .ref m4, .ref m5, .int v6, .int v7, .int v8, .int v9, .int v10, .long v11, .int v12, .int v13, .int v14, .int v15, .ref m16, .ref m17, .ref m18, .ref m19, .ref m20, .ref m21, .ref m22, .ref m23, .int o_2, .ref m25, .ref m26, .ref m27, .ref m28, .ref m29, .int v30, .ref m31, .ref m32, .ref m33, .int v34, .int v35, .int v36, .ref m37, .ref m38, .ref m39, .ref m40, .long L35f2x41])), (m17, .inl (k 0, 30, .inl f17)), (m18, .inl (k 0, 250, .inl f18)), (m19, .inl (k 0, 40, .inl f19)), (m22, .inl (k 0, 600, .inl f22)), (m25, .inl (k 0, 4, .inl o_3))]) (w1 := []) hP hD [] [0, 1, 2, 3, 4, 5, 6, 7] rfl rfl (by decide +kernel) (by decide +kernel) hk1 hFc hP1 hD1
      clear hK1 hP1 hD1 hPc hDc hFc
      clear hk1 hz1 ht hvm
      have hP : va_P D vwCl [(m26, .inl (k 0, 8, .inl f26)), (m40, .inl (k 2, 1000, .inr (.inl L6a1))), (mo, .inr (12, [.int v0, .ref m1, .ref m2, .ref m3, .ref m4, .ref m5, .int v6, .int v7, .int v8, .int v9, .int v10, .long v11, .int v12, .int v13, .int v14, .int v15, .ref m16, .ref m17, .ref m18, .ref m19, .ref m20, .ref m21, .ref m22, .ref m23, .int o_2, .ref m25, .ref m26, .ref m27, .ref m28, .ref m29, .int v30, .ref m31, .ref m32, .ref m33, .int v34, .int v35, .int v36, .ref m37, .ref m38, .ref m39, .ref m40, .long L35f2x41])), (m17, .inl (k 0, 30, .inl f17)), (m18, .inl (k 0, 250, .inl f18)), (m19, .inl (k 0, 40, .inl f19)), (m22, .inl (k 0, 600, .inl f22)), (m25, .inl (k 0, 4, .inl o_3))] H1 := hP
      have hD : va_D A [(m26, .inl (k 0, 8, .inl f26)), (m40, .inl (k 2, 1000, .inr (.inl L6a1))), (mo, .inr (12, [.int v0, .ref m1, .ref m2, .ref m3, .ref m4, .ref m5, .int v6, .int v7, .int v8, .int v9, .int v10, .long v11, .int v12, .int v13, .int v14, .int v15, .ref m16, .ref m17, .ref m18, .ref m19, .ref m20, .ref m21, .ref m22, .ref m23, .int o_2, .ref m25, .ref m26, .ref m27, .ref m28, .ref m29, .int v30, .ref m31, .ref m32, .ref m33, .int v34, .int v35, .int v36, .ref m37, .ref m38, .ref m39, .ref m40, .long L35f2x41])), (m17, .inl (k 0, 30, .inl f17)), (m18, .inl (k 0, 250, .inl f18)), (m19, .inl (k 0, 40, .inl f19)), (m22, .inl (k 0, 600, .inl f22)), (m25, .inl (k 0, 4, .inl o_3))] := hD
      generalize H1 = H at hP hS ⊢
      have hw_63 : (0 ≤ r_62.toInt ∧ r_62.toInt ≤ 1) ∧ (r_62 = bitOf o_2 L35l3) := hw
      obtain ⟨hw_64, hw_65⟩ := hw_63
      clear hw
      refine lv_if_ne (tgt := 59) hx hb dX12_laysChance_53 (by decide) (fun h_66 => ?_) (fun h_66 => ?_)
      · skip
        have zh_66 : ¬ r_62.toInt = 0 := z_ne h_66
        refine lv_aload_n hx hb dX12_laysChance_59 rfl (lv_at hl 0 rfl) ?_
        refine lv_dup hx hb dX12_laysChance_60 rfl ?_
        refine va_get (D := D) (ci := 12) (v := .long L35f2x41) (C := RX12) (T := TX12) (N := 42) hx hb hts iT_X12 hown hK hP 2 rfl rfl 41 (by decide) (hts _ tw_6_94) (fun _ h9 => h9) rfl dX12_laysChance_61 ?_
        refine lv_ldc2 (v := 10) hx hb hown (hts _ tw_8_191) dX12_laysChance_64 ?_
        refine lv_lmul hx hb dX12_laysChance_67 ?_
        refine lv_topl (fun x_67 ex_67 => ?_)
        refine va_put (D := D) (ci := 12) (v := .long x_67) (ty := tyX12 41) (C := RX12) (T := TX12) (N := 42) hx hb hts iT_X12 tyX12 tyX12_ok nmX12 hown hK hP hD hS 2 rfl rfl 41 (by decide) (hts _ tw_6_94) (fun _ h9 => h9) rfl (tyX12_ok 41 (by decide)) rfl rfl (Nat.le_of_ble_eq_true rfl) dX12_laysChance_68 (fun H locs hP hD hS => ?_)
        have hP : va_P D vwCl [(m26, .inl (k 0, 8, .inl f26)), (m40, .inl (k 2, 1000, .inr (.inl L6a1))), (mo, .inr (12, [.int v0, .ref m1, .ref m2, .ref m3, .ref m4, .ref m5, .int v6, .int v7, .int v8, .int v9, .int v10, .long v11, .int v12, .int v13, .int v14, .int v15, .ref m16, .ref m17, .ref m18, .ref m19, .ref m20, .ref m21, .ref m22, .ref m23, .int o_2, .ref m25, .ref m26, .ref m27, .ref m28, .ref m29, .int v30, .ref m31, .ref m32, .ref m33, .int v34, .int v35, .int v36, .ref m37, .ref m38, .ref m39, .ref m40, .long x_67])), (m17, .inl (k 0, 30, .inl f17)), (m18, .inl (k 0, 250, .inl f18)), (m19, .inl (k 0, 40, .inl f19)), (m22, .inl (k 0, 600, .inl f22)), (m25, .inl (k 0, 4, .inl o_3))] H := hP
        have hD : va_D A [(m26, .inl (k 0, 8, .inl f26)), (m40, .inl (k 2, 1000, .inr (.inl L6a1))), (mo, .inr (12, [.int v0, .ref m1, .ref m2, .ref m3, .ref m4, .ref m5, .int v6, .int v7, .int v8, .int v9, .int v10, .long v11, .int v12, .int v13, .int v14, .int v15, .ref m16, .ref m17, .ref m18, .ref m19, .ref m20, .ref m21, .ref m22, .ref m23, .int o_2, .ref m25, .ref m26, .ref m27, .ref m28, .ref m29, .int v30, .ref m31, .ref m32, .ref m33, .int v34, .int v35, .int v36, .ref m37, .ref m38, .ref m39, .ref m40, .long x_67])), (m17, .inl (k 0, 30, .inl f17)), (m18, .inl (k 0, 250, .inl f18)), (m19, .inl (k 0, 40, .inl f19)), (m22, .inl (k 0, 600, .inl f22)), (m25, .inl (k 0, 4, .inl o_3))] := hD
        refine lv_iload_n hx hb dX12_laysChance_71 rfl (lv_at hl 2 rfl) ?_
        refine lv_iconst (v := 1) hx hb dX12_laysChance_72 (by decide) ?_
        refine lv_iload_n hx hb dX12_laysChance_73 rfl (lv_at hl 3 rfl) ?_
        refine lv_ishl hx hb dX12_laysChance_74 ?_
        refine lv_topi (fun x_68 ex_68 => ?_)
        have zx_68 : 1 ≤ x_68.toInt ∧ x_68.toInt ≤ 512 := by rw [ex_68]; exact z_shl1 9 512 rfl (by decide) (by omega) (by omega)
        refine lv_ior hx hb dX12_laysChance_75 ?_
        refine lv_topi (fun x_69 ex_69 => ?_)
        have zx_69 : 0 ≤ x_69.toInt ∧ x_69.toInt < 1024 := by rw [ex_69]; exact z_or 10 1024 rfl (by decide) ⟨by omega, by omega⟩ ⟨by omega, by omega⟩
        refine lv_istore_n (lv' := [(2, .int x_69), (0, .ref mo), (1, .int p0), (3, .int L35l3)]) hx hb dX12_laysChance_76 rfl hl (by decide) rfl (fun ls hl => ?_)
        obtain ⟨x_70, ex_70⟩ : ∃ y : Int32, y = L35l3 + 1 := ⟨_, rfl⟩
        have zx_70 : x_70.toInt = L35l3.toInt + 1 := by rw [ex_70]; exact z_add rfl rfl (by omega) (by omega)
        refine lv_iinc (v := x_70) (lv' := [(3, .int x_70), (2, .int x_69), (0, .ref mo), (1, .int p0)]) hx hb dX12_laysChance_77 hl (k := 3) rfl (by rw [ex_70]; rfl) (by decide) rfl (fun ls hl => ?_)
        refine lv_goto (tgt := 35) hx hb dX12_laysChance_80 (by decide) ?_
        exact ih_10 _ _ _ _ (by omega) ⟨x_69, x_70, x_67, rfl, (show 0 ≤ x_69.toInt ∧ x_69.toInt ≤ 1023 from by omega), (show 0 ≤ x_70.toInt ∧ x_70.toInt ≤ 10 from by omega), (WA.mul hi35x0 ex_67 (by omega) (by omega)), hP.sub (ws' := [(m26, .inl (k 0, 8, .inl f26)), (m40, .inl (k 2, 1000, .inr (.inl L6a1))), (mo, .inr (12, [.int v0, .ref m1, .ref m2, .ref m3, .ref m4, .ref m5, .int v6, .int v7, .int v8, .int v9, .int v10, .long v11, .int v12, .int v13, .int v14, .int v15, .ref m16, .ref m17, .ref m18, .ref m19, .ref m20, .ref m21, .ref m22, .ref m23, .int o_2, .ref m25, .ref m26, .ref m27, .ref m28, .ref m29, .int v30, .ref m31, .ref m32, .ref m33, .int v34, .int v35, .int v36, .ref m37, .ref m38, .ref m39, .ref m40, .long x_67])), (m17, .inl (k 0, 30, .inl f17)), (m18, .inl (k 0, 250, .inl f18)), (m19, .inl (k 0, 40, .inl f19)), (m22, .inl (k 0, 600, .inl f22)), (m25, .inl (k 0, 4, .inl o_3))]) [0, 1, 2, 3, 4, 5, 6, 7] rfl, hD.sub (ws' := [(m26, .inl (k 0, 8, .inl f26)), (m40, .inl (k 2, 1000, .inr (.inl L6a1))), (mo, .inr (12, [.int v0, .ref m1, .ref m2, .ref m3, .ref m4, .ref m5, .int v6, .int v7, .int v8, .int v9, .int v10, .long v11, .int v12, .int v13, .int v14, .int v15, .ref m16, .ref m17, .ref m18, .ref m19, .ref m20, .ref m21, .ref m22, .ref m23, .int o_2, .ref m25, .ref m26, .ref m27, .ref m28, .ref m29, .int v30, .ref m31, .ref m32, .ref m33, .int v34, .int v35, .int v36, .ref m37, .ref m38, .ref m39, .ref m40, .long x_67])), (m17, .inl (k 0, 30, .inl f17)), (m18, .inl (k 0, 250, .inl f18)), (m19, .inl (k 0, 40, .inl f19)), (m22, .inl (k 0, 600, .inl f22)), (m25, .inl (k 0, 4, .inl o_3))]) [0, 1, 2, 3, 4, 5, 6, 7] (by decide +kernel) rfl, hS, lv_sub hl [2, 3, 1, 0] rfl⟩
      · skip
        have zh_66 : r_62.toInt = 0 := z_eq h_66
        refine lv_goto (tgt := 77) hx hb dX12_laysChance_56 (by decide) ?_
        obtain ⟨x_71, ex_71⟩ : ∃ y : Int32, y = L35l3 + 1 := ⟨_, rfl⟩
        have zx_71 : x_71.toInt = L35l3.toInt + 1 := by rw [ex_71]; exact z_add rfl rfl (by omega) (by omega)
        refine lv_iinc (v := x_71) (lv' := [(3, .int x_71), (0, .ref mo), (1, .int p0), (2, .int L35l2)]) hx hb dX12_laysChance_77 hl (k := 3) rfl (by rw [ex_71]; rfl) (by decide) rfl (fun ls hl => ?_)
        refine lv_goto (tgt := 35) hx hb dX12_laysChance_80 (by decide) ?_
        exact ih_10 _ _ _ _ (by omega) ⟨L35l2, x_71, L35f2x41, rfl, (show 0 ≤ L35l2.toInt ∧ L35l2.toInt ≤ 1023 from by omega), (show 0 ≤ x_71.toInt ∧ x_71.toInt ≤ 10 from by omega), (WA.keep hi35x0 (by omega)), hP.sub (ws' := [(m26, .inl (k 0, 8, .inl f26)), (m40, .inl (k 2, 1000, .inr (.inl L6a1))), (mo, .inr (12, [.int v0, .ref m1, .ref m2, .ref m3, .ref m4, .ref m5, .int v6, .int v7, .int v8, .int v9, .int v10, .long v11, .int v12, .int v13, .int v14, .int v15, .ref m16, .ref m17, .ref m18, .ref m19, .ref m20, .ref m21, .ref m22, .ref m23, .int o_2, .ref m25, .ref m26, .ref m27, .ref m28, .ref m29, .int v30, .ref m31, .ref m32, .ref m33, .int v34, .int v35, .int v36, .ref m37, .ref m38, .ref m39, .ref m40, .long L35f2x41])), (m17, .inl (k 0, 30, .inl f17)), (m18, .inl (k 0, 250, .inl f18)), (m19, .inl (k 0, 40, .inl f19)), (m22, .inl (k 0, 600, .inl f22)), (m25, .inl (k 0, 4, .inl o_3))]) [0, 1, 2, 3, 4, 5, 6, 7] rfl, hD.sub (ws' := [(m26, .inl (k 0, 8, .inl f26)), (m40, .inl (k 2, 1000, .inr (.inl L6a1))), (mo, .inr (12, [.int v0, .ref m1, .ref m2, .ref m3, .ref m4, .ref m5, .int v6, .int v7, .int v8, .int v9, .int v10, .long v11, .int v12, .int v13, .int v14, .int v15, .ref m16, .ref m17, .ref m18, .ref m19, .ref m20, .ref m21, .ref m22, .ref m23, .int o_2, .ref m25, .ref m26, .ref m27, .ref m28, .ref m29, .int v30, .ref m31, .ref m32, .ref m33, .int v34, .int v35, .int v36, .ref m37, .ref m38, .ref m39, .ref m40, .long L35f2x41])), (m17, .inl (k 0, 30, .inl f17)), (m18, .inl (k 0, 250, .inl f18)), (m19, .inl (k 0, 40, .inl f19)), (m22, .inl (k 0, 600, .inl f22)), (m25, .inl (k 0, 4, .inl o_3))]) [0, 1, 2, 3, 4, 5, 6, 7] (by decide +kernel) rfl, hS, lv_sub hl [1, 2, 3, 0] rfl⟩
  · skip
    have zh_9 : L6l2.toInt < 1000 := z_nle h_9
    refine lv_aload_n hx hb dX12_laysChance_13 rfl (lv_at hl 0 rfl) ?_
    refine va_get (D := D) (ci := 12) (v := .ref m40) (C := RX12) (T := TX12) (N := 42) hx hb hts iT_X12 hown hK hP 2 rfl rfl 40 (by decide) (hts _ tw_6_93) (fun _ h9 => h9) rfl dX12_laysChance_14 ?_
    refine lv_iload_n hx hb dX12_laysChance_17 rfl (lv_at hl 2 rfl) ?_
    refine lv_lconst (v := 0) hx hb dX12_laysChance_18 (by decide) ?_
    refine va_last hx hb hK hP hD hS 1 2 rfl rfl (z_in (by omega) (by omega)) dX12_laysChance_19 (fun H locs hP hD hS => ?_)
    obtain ⟨g_72, eg_72⟩ : ∃ z : Nat → Int64, vp_updL L6a1 L6l2.toNatClampNeg 0 = z := ⟨_, rfl⟩
    have hP : va_P D vwCl [(m26, .inl (k 0, 8, .inl f26)), (m40, .inl (k 2, 1000, .inr (.inl (vp_updL L6a1 L6l2.toNatClampNeg 0)))), (mo, .inr (12, [.int v0, .ref m1, .ref m2, .ref m3, .ref m4, .ref m5, .int v6, .int v7, .int v8, .int v9, .int v10, .long v11, .int v12, .int v13, .int v14, .int v15, .ref m16, .ref m17, .ref m18, .ref m19, .ref m20, .ref m21, .ref m22, .ref m23, .int o_2, .ref m25, .ref m26, .ref m27, .ref m28, .ref m29, .int v30, .ref m31, .ref m32, .ref m33, .int v34, .int v35, .int v36, .ref m37, .ref m38, .ref m39, .ref m40, .long v41])), (m17, .inl (k 0, 30, .inl f17)), (m18, .inl (k 0, 250, .inl f18)), (m19, .inl (k 0, 40, .inl f19)), (m22, .inl (k 0, 600, .inl f22)), (m25, .inl (k 0, 4, .inl o_3))] H := hP
    have hD : va_D A [(m26, .inl (k 0, 8, .inl f26)), (m40, .inl (k 2, 1000, .inr (.inl (vp_updL L6a1 L6l2.toNatClampNeg 0)))), (mo, .inr (12, [.int v0, .ref m1, .ref m2, .ref m3, .ref m4, .ref m5, .int v6, .int v7, .int v8, .int v9, .int v10, .long v11, .int v12, .int v13, .int v14, .int v15, .ref m16, .ref m17, .ref m18, .ref m19, .ref m20, .ref m21, .ref m22, .ref m23, .int o_2, .ref m25, .ref m26, .ref m27, .ref m28, .ref m29, .int v30, .ref m31, .ref m32, .ref m33, .int v34, .int v35, .int v36, .ref m37, .ref m38, .ref m39, .ref m40, .long v41])), (m17, .inl (k 0, 30, .inl f17)), (m18, .inl (k 0, 250, .inl f18)), (m19, .inl (k 0, 40, .inl f19)), (m22, .inl (k 0, 600, .inl f22)), (m25, .inl (k 0, 4, .inl o_3))] := hD
    rw [eg_72] at hP hD
    obtain ⟨x_73, ex_73⟩ : ∃ y : Int32, y = L6l2 + 1 := ⟨_, rfl⟩
    have zx_73 : x_73.toInt = L6l2.toInt + 1 := by rw [ex_73]; exact z_add rfl rfl (by omega) (by omega)
    refine lv_iinc (v := x_73) (lv' := [(2, .int x_73), (0, .ref mo), (1, .int p0)]) hx hb dX12_laysChance_20 hl (k := 2) rfl (by rw [ex_73]; rfl) (by decide) rfl (fun ls hl => ?_)
    refine lv_goto (tgt := 6) hx hb dX12_laysChance_23 (by decide) ?_
    exact ih_7 _ _ _ _ (by omega) ⟨x_73, g_72, rfl, (show 0 ≤ x_73.toInt ∧ x_73.toInt ≤ 1000 from by omega), hP.sub (ws' := [(m26, .inl (k 0, 8, .inl f26)), (m40, .inl (k 2, 1000, .inr (.inl g_72))), (mo, .inr (12, [.int v0, .ref m1, .ref m2, .ref m3, .ref m4, .ref m5, .int v6, .int v7, .int v8, .int v9, .int v10, .long v11, .int v12, .int v13, .int v14, .int v15, .ref m16, .ref m17, .ref m18, .ref m19, .ref m20, .ref m21, .ref m22, .ref m23, .int o_2, .ref m25, .ref m26, .ref m27, .ref m28, .ref m29, .int v30, .ref m31, .ref m32, .ref m33, .int v34, .int v35, .int v36, .ref m37, .ref m38, .ref m39, .ref m40, .long v41])), (m17, .inl (k 0, 30, .inl f17)), (m18, .inl (k 0, 250, .inl f18)), (m19, .inl (k 0, 40, .inl f19)), (m22, .inl (k 0, 600, .inl f22)), (m25, .inl (k 0, 4, .inl o_3))]) [0, 1, 2, 3, 4, 5, 6, 7] rfl, hD.sub (ws' := [(m26, .inl (k 0, 8, .inl f26)), (m40, .inl (k 2, 1000, .inr (.inl g_72))), (mo, .inr (12, [.int v0, .ref m1, .ref m2, .ref m3, .ref m4, .ref m5, .int v6, .int v7, .int v8, .int v9, .int v10, .long v11, .int v12, .int v13, .int v14, .int v15, .ref m16, .ref m17, .ref m18, .ref m19, .ref m20, .ref m21, .ref m22, .ref m23, .int o_2, .ref m25, .ref m26, .ref m27, .ref m28, .ref m29, .int v30, .ref m31, .ref m32, .ref m33, .int v34, .int v35, .int v36, .ref m37, .ref m38, .ref m39, .ref m40, .long v41])), (m17, .inl (k 0, 30, .inl f17)), (m18, .inl (k 0, 250, .inl f18)), (m19, .inl (k 0, 40, .inl f19)), (m22, .inl (k 0, 600, .inl f22)), (m25, .inl (k 0, 4, .inl o_3))]) [0, 1, 2, 3, 4, 5, 6, 7] (by decide +kernel) rfl, hS, lv_sub hl [1, 2, 0] rfl⟩
set_option maxHeartbeats 4000000 in
set_option maxRecDepth 100000 in
theorem c_X12_chance (l : Launch) (D : va_G) (k : Nat → ClassId) (mo : Nat) (p0 : Int32) (p1 : Int32) (p2 : Int32) (v0 : Int32) (m1 : Nat) (m2 : Nat) (m3 : Nat) (m4 : Nat) (m5 : Nat) (v6 : Int32) (v7 : Int32) (v8 : Int32) (v9 : Int32) (v10 : Int32) (v11 : Int64) (v12 : Int32) (v13 : Int32) (v14 : Int32) (v15 : Int32) (m16 : Nat) (m17 : Nat) (m18 : Nat) (m19 : Nat) (m20 : Nat) (m21 : Nat) (m22 : Nat) (m23 : Nat) (v24 : Int32) (m25 : Nat) (m26 : Nat) (m27 : Nat) (m28 : Nat) (m29 : Nat) (v30 : Int32) (m31 : Nat) (m32 : Nat) (m33 : Nat) (v34 : Int32) (v35 : Int32) (v36 : Int32) (m37 : Nat) (m38 : Nat) (m39 : Nat) (m40 : Nat) (v41 : Int64) (f17 : Nat → Int32) (f18 : Nat → Int32) (f19 : Nat → Int32) (f22 : Nat → Int32) (f25 : Nat → Int32) (f26 : Nat → Int32) (f40 : Nat → Int64) (sz : Nat) (h_v6 : 0 ≤ v6.toInt ∧ v6.toInt ≤ 1000) (h_v24 : 0 ≤ v24.toInt ∧ v24.toInt ≤ 1023) (hp_f17_0 : PR 30 6 0 0 8 f17) (hp_f17_1 : PR 30 6 1 0 10 f17) (hp_f17_2 : PR 30 6 2 0 4 f17) (hp_f17_3 : PR 30 6 3 0 6 f17) (hp_f17_4 : PR 30 6 4 0 2 f17) (hp_f17_5 : PR 30 6 5 0 40 f17) (hp_f18_0 : PR 250 5 0 0 7 f18) (hp_f18_1 : PR 250 5 1 0 7 f18) (hp_f18_2 : PR 250 5 2 0 60 f18) (hp_f18_3 : PR 250 5 3 0 10 f18) (hp_f19_0 : PR 40 2 0 0 7 f19) (hp_f19_1 : PR 40 2 1 0 99 f19) (hp_f22_0 : PR 600 3 1 0 9 f22) (hp_f22_1 : PR 600 3 2 0 99 f22) (hp_f22_2 : AK f22) (hp_f25_0 : PR 4 1 0 0 99 f25) (hp_f26_0 : PR 8 1 0 0 100000 f26) : Met l yX12_chance (ww yX12_chance cX12_chance 7 (some .long)) ({ frames := 59, cells := 0, slots := 0, locals := 1357 }) (Pre0 D k [(mo, .inr (12, [.int v0, .ref m1, .ref m2, .ref m3, .ref m4, .ref m5, .int v6, .int v7, .int v8, .int v9, .int v10, .long v11, .int v12, .int v13, .int v14, .int v15, .ref m16, .ref m17, .ref m18, .ref m19, .ref m20, .ref m21, .ref m22, .ref m23, .int v24, .ref m25, .ref m26, .ref m27, .ref m28, .ref m29, .int v30, .ref m31, .ref m32, .ref m33, .int v34, .int v35, .int v36, .ref m37, .ref m38, .ref m39, .ref m40, .long v41])), (m17, .inl (k 0, 30, .inl f17)), (m18, .inl (k 0, 250, .inl f18)), (m19, .inl (k 0, 40, .inl f19)), (m22, .inl (k 0, 600, .inl f22)), (m25, .inl (k 0, 4, .inl f25)), (m26, .inl (k 0, 8, .inl f26)), (m40, .inl (k 2, 1000, .inr (.inl f40)))] sz [.ref mo, .int p0, .int p1, .int p2]) (va_Ql (fun (r : Int64) (u : Int32 × Int32 × Int64 × (Nat → Int32) × (Nat → Int32) × (Nat → Int64)) => match u with | (v0z, v24z, v41z, f25z, f26z, f40z) => (0 ≤ v0z.toInt ∧ v0z.toInt ≤ 0) ∧ (0 ≤ v24z.toInt ∧ v24z.toInt ≤ 1023) ∧ (PR 4 1 0 0 99 f25z) ∧ (PR 8 1 0 0 100000 f26z)) (fun (u : Int32 × Int32 × Int64 × (Nat → Int32) × (Nat → Int32) × (Nat → Int64)) tZ => match u with | (v0z, v24z, v41z, f25z, f26z, f40z) => Bw D k (va_A [(mo, .inr (12, [.int v0, .ref m1, .ref m2, .ref m3, .ref m4, .ref m5, .int v6, .int v7, .int v8, .int v9, .int v10, .long v11, .int v12, .int v13, .int v14, .int v15, .ref m16, .ref m17, .ref m18, .ref m19, .ref m20, .ref m21, .ref m22, .ref m23, .int v24, .ref m25, .ref m26, .ref m27, .ref m28, .ref m29, .int v30, .ref m31, .ref m32, .ref m33, .int v34, .int v35, .int v36, .ref m37, .ref m38, .ref m39, .ref m40, .long v41])), (m17, .inl (k 0, 30, .inl f17)), (m18, .inl (k 0, 250, .inl f18)), (m19, .inl (k 0, 40, .inl f19)), (m22, .inl (k 0, 600, .inl f22)), (m25, .inl (k 0, 4, .inl f25)), (m26, .inl (k 0, 8, .inl f26)), (m40, .inl (k 2, 1000, .inr (.inl f40)))] sz) [(mo, .inr (12, [.int v0z, .ref m1, .ref m2, .ref m3, .ref m4, .ref m5, .int v6, .int v7, .int v8, .int v9, .int v10, .long v11, .int v12, .int v13, .int v14, .int v15, .ref m16, .ref m17, .ref m18, .ref m19, .ref m20, .ref m21, .ref m22, .ref m23, .int v24z, .ref m25, .ref m26, .ref m27, .ref m28, .ref m29, .int v30, .ref m31, .ref m32, .ref m33, .int v34, .int v35, .int v36, .ref m37, .ref m38, .ref m39, .ref m40, .long v41z])), (m17, .inl (k 0, 30, .inl f17)), (m18, .inl (k 0, 250, .inl f18)), (m19, .inl (k 0, 40, .inl f19)), (m22, .inl (k 0, 600, .inl f22)), (m25, .inl (k 0, 4, .inl f25z)), (m26, .inl (k 0, 8, .inl f26z)), (m40, .inl (k 2, 1000, .inr (.inl f40z)))] tZ) (va_A [(mo, .inr (12, [.int v0, .ref m1, .ref m2, .ref m3, .ref m4, .ref m5, .int v6, .int v7, .int v8, .int v9, .int v10, .long v11, .int v12, .int v13, .int v14, .int v15, .ref m16, .ref m17, .ref m18, .ref m19, .ref m20, .ref m21, .ref m22, .ref m23, .int v24, .ref m25, .ref m26, .ref m27, .ref m28, .ref m29, .int v30, .ref m31, .ref m32, .ref m33, .int v34, .int v35, .int v36, .ref m37, .ref m38, .ref m39, .ref m40, .long v41])), (m17, .inl (k 0, 30, .inl f17)), (m18, .inl (k 0, 250, .inl f18)), (m19, .inl (k 0, 40, .inl f19)), (m22, .inl (k 0, 600, .inl f22)), (m25, .inl (k 0, 4, .inl f25)), (m26, .inl (k 0, 8, .inl f26)), (m40, .inl (k 2, 1000, .inr (.inl f40)))] sz)) 0 0 (va_A [(mo, .inr (12, [.int v0, .ref m1, .ref m2, .ref m3, .ref m4, .ref m5, .int v6, .int v7, .int v8, .int v9, .int v10, .long v11, .int v12, .int v13, .int v14, .int v15, .ref m16, .ref m17, .ref m18, .ref m19, .ref m20, .ref m21, .ref m22, .ref m23, .int v24, .ref m25, .ref m26, .ref m27, .ref m28, .ref m29, .int v30, .ref m31, .ref m32, .ref m33, .int v34, .int v35, .int v36, .ref m37, .ref m38, .ref m39, .ref m40, .long v41])), (m17, .inl (k 0, 30, .inl f17)), (m18, .inl (k 0, 250, .inl f18)), (m19, .inl (k 0, 40, .inl f19)), (m22, .inl (k 0, 600, .inl f22)), (m25, .inl (k 0, 4, .inl f25)), (m26, .inl (k 0, 8, .inl f26)), (m40, .inl (k 2, 1000, .inr (.inl f40)))] sz) := by
  refine Met.ofW (cc := cX12_chance) (maxL := 7) (ret := (some .long)) (by decide +kernel) rfl ?_
  intro p e s m args below meth c s₁ B hml hv
  obtain ⟨rfl, hsz, hP, hK, hD0, hN⟩ := hv
  have hx := B.exec
  have hb := B.bytes
  have hr := B.returns
  have hts : ∀ w ∈ TT, w.before _ s = true := fun w h => atoms_spec (ws := ww yX12_chance cX12_chance 7 (some .long)) B.pre w (List.mem_cons_of_mem _ h)
  have hown : s.vm.findClass RX12 = some m.cls := findClass_of_methodNamed B.named
  have hlocks := B.notSynchronized
  subst hsz
  have hD := hD0.self (sz := s.heap.size)
  generalize hAe : va_A [(mo, .inr (12, [.int v0, .ref m1, .ref m2, .ref m3, .ref m4, .ref m5, .int v6, .int v7, .int v8, .int v9, .int v10, .long v11, .int v12, .int v13, .int v14, .int v15, .ref m16, .ref m17, .ref m18, .ref m19, .ref m20, .ref m21, .ref m22, .ref m23, .int v24, .ref m25, .ref m26, .ref m27, .ref m28, .ref m29, .int v30, .ref m31, .ref m32, .ref m33, .int v34, .int v35, .int v36, .ref m37, .ref m38, .ref m39, .ref m40, .long v41])), (m17, .inl (k 0, 30, .inl f17)), (m18, .inl (k 0, 250, .inl f18)), (m19, .inl (k 0, 40, .inl f19)), (m22, .inl (k 0, 600, .inl f22)), (m25, .inl (k 0, 4, .inl f25)), (m26, .inl (k 0, 8, .inl f26)), (m40, .inl (k 2, 1000, .inr (.inl f40)))] s.heap.size = A at hD ⊢
  have hA : ∀ q : Nat, s.heap.size ≤ q → A q := fun q h => by rw [← hAe]; exact Or.inr h
  have hS : va_S A s.heap s.heap [] := va_S.rf
  have hl := lv_entry ([.ref mo, .int p0, .int p1, .int p2]) (n := 7) (Nat.le_of_ble_eq_true rfl)
  rw [lg_entry_eq]
  generalize (lg_sl ([.ref mo, .int p0, .int p1, .int p2]) ++ List.replicate (7 - (lg_sl ([.ref mo, .int p0, .int p1, .int p2])).length) Slot.unset).toArray = ls at hl ⊢
  have hl : lv_has ls 7 [(0, .ref mo), (1, .int p0), (2, .int p1), (3, .int p2)] := hl
  refine lv_aload_n hx hb dX12_chance_0 rfl (lv_at hl 0 rfl) ?_
  refine lv_iconst (v := 0) hx hb dX12_chance_1 (by decide) ?_
  refine va_put (D := D) (ci := 12) (v := .int 0) (ty := tyX12 0) (C := RX12) (T := TX12) (N := 42) hx hb hts iT_X12 tyX12 tyX12_ok nmX12 hown hK hP hD hS 0 rfl rfl 0 (by decide) (hts _ tw_6_53) (fun _ h9 => h9) rfl (tyX12_ok 0 (by decide)) rfl rfl (Nat.le_of_ble_eq_true rfl) dX12_chance_2 (fun H locs hP hD hS => ?_)
  have hP : va_P D vwCl [(mo, .inr (12, [.int 0, .ref m1, .ref m2, .ref m3, .ref m4, .ref m5, .int v6, .int v7, .int v8, .int v9, .int v10, .long v11, .int v12, .int v13, .int v14, .int v15, .ref m16, .ref m17, .ref m18, .ref m19, .ref m20, .ref m21, .ref m22, .ref m23, .int v24, .ref m25, .ref m26, .ref m27, .ref m28, .ref m29, .int v30, .ref m31, .ref m32, .ref m33, .int v34, .int v35, .int v36, .ref m37, .ref m38, .ref m39, .ref m40, .long v41])), (m17, .inl (k 0, 30, .inl f17)), (m18, .inl (k 0, 250, .inl f18)), (m19, .inl (k 0, 40, .inl f19)), (m22, .inl (k 0, 600, .inl f22)), (m25, .inl (k 0, 4, .inl f25)), (m26, .inl (k 0, 8, .inl f26)), (m40, .inl (k 2, 1000, .inr (.inl f40)))] H := hP
  have hD : va_D A [(mo, .inr (12, [.int 0, .ref m1, .ref m2, .ref m3, .ref m4, .ref m5, .int v6, .int v7, .int v8, .int v9, .int v10, .long v11, .int v12, .int v13, .int v14, .int v15, .ref m16, .ref m17, .ref m18, .ref m19, .ref m20, .ref m21, .ref m22, .ref m23, .int v24, .ref m25, .ref m26, .ref m27, .ref m28, .ref m29, .int v30, .ref m31, .ref m32, .ref m33, .int v34, .int v35, .int v36, .ref m37, .ref m38, .ref m39, .ref m40, .long v41])), (m17, .inl (k 0, 30, .inl f17)), (m18, .inl (k 0, 250, .inl f18)), (m19, .inl (k 0, 40, .inl f19)), (m22, .inl (k 0, 600, .inl f22)), (m25, .inl (k 0, 4, .inl f25)), (m26, .inl (k 0, 8, .inl f26)), (m40, .inl (k 2, 1000, .inr (.inl f40)))] := hD
  refine lv_aload_n hx hb dX12_chance_5 rfl (lv_at hl 0 rfl) ?_
  refine lv_iload_n hx hb dX12_chance_6 rfl (lv_at hl 1 rfl) ?_
  refine lv_i2l (v := p0.toInt64) hx hb dX12_chance_7 rfl ?_
  obtain ⟨hPc, hDc, hFc⟩ := sub3 hP hD hS hA (ws' := [(mo, .inr (12, [.int 0, .ref m1, .ref m2, .ref m3, .ref m4, .ref m5, .int v6, .int v7, .int v8, .int v9, .int v10, .long v11, .int v12, .int v13, .int v14, .int v15, .ref m16, .ref m17, .ref m18, .ref m19, .ref m20, .ref m21, .ref m22, .ref m23, .int v24, .ref m25, .ref m26, .ref m27, .ref m28, .ref m29, .int v30, .ref m31, .ref m32, .ref m33, .int v34, .int v35, .int v36, .ref m37, .ref m38, .ref m39, .ref m40, .long v41])), (m17, .inl (k 0, 30, .inl f17))]) [0, 1] (by decide +kernel) rfl
  refine va_calli (va_runV (C := RX12) (As := [.long p0.toInt64]) (rest := []) ⟨hx, hb, hml, hown, hts⟩ (c_X12_isStreet l D k mo p0.toInt64 0 m1 m2 m3 m4 m5 v6 v7 v8 v9 v10 v11 v12 v13 v14 v15 m16 m17 m18 m19 m20 m21 m22 m23 v24 m25 m26 m27 m28 m29 v30 m31 m32 m33 v34 v35 v36 m37 m38 m39 m40 v41 f17 H.size (show 0 ≤ v6.toInt ∧ v6.toInt ≤ 1000 from by omega) (show 0 ≤ v24.toInt ∧ v24.toInt ≤ 1023 from by omega) hp_f17_0 hp_f17_1 hp_f17_2 hp_f17_3 hp_f17_4 hp_f17_5) (cwV 1 hts (gV tw_7_133 tw_7_135 tw_p_62 tw_1_13 tw_7_136) rfl rfl rfl hdV_X12_isStreet ⟨Nat.le_of_ble_eq_true rfl, Nat.le_of_ble_eq_true rfl⟩) (cz_V hK hPc hDc hN (ci := 12) (q0 := 0) rfl rfl [.long p0.toInt64]) rfl rfl hl.1 rfl (lv_room (Nat.le_of_ble_eq_true rfl)) dX12_chance_8 ⟨Nat.le_of_ble_eq_true rfl, Nat.le_of_ble_eq_true rfl⟩) hS (fun q _ h => hFc q h) hFc (fun r_1 uZ tZ H1 locs ht hvm hw hB hz1 hk1 hS => ?_)
  obtain ⟨hP1, hK1, hD1⟩ := hB
  rw [ht] at hP1
  obtain ⟨hP, hD⟩ := va_join (wr := [(m18, .inl (k 0, 250, .inl f18)), (m19, .inl (k 0, 40, .inl f19)), (m22, .inl (k 0, 600, .inl f22)), (m25, .inl (k 0, 4, .inl f25)), (m26, .inl (k 0, 8, .inl f26)), (m40, .inl (k 2, 1000, .inr (.inl f40)))]) (w1 := [(mo, .inr (12, [.int 0, .ref m1, .ref m2, .ref m3, .ref m4, .ref m5, .int v6, .int v7, .int v8, .int v9, .int v10, .long v11, .int v12, .int v13, .int v14, .int v15, .ref m16, .ref m17, .ref m18, .ref m19, .ref m20, .ref m21, .ref m22, .ref m23, .int v24, .ref m25, .ref m26, .ref m27, .ref m28, .ref m29, .int v30, .ref m31, .ref m32, .ref m33, .int v34, .int v35, .int v36, .ref m37, .ref m38, .ref m39, .ref m40, .long v41])), (m17, .inl (k 0, 30, .inl f17))]) hP hD [0, 1] [2, 3, 4, 5, 6, 7] rfl rfl (by decide +kernel) (by decide +kernel) hk1 hFc hP1 hD1
  clear hK1 hP1 hD1 hPc hDc hFc
  clear hk1 hz1 ht hvm
  have hP : va_P D vwCl [(m18, .inl (k 0, 250, .inl f18)), (m19, .inl (k 0, 40, .inl f19)), (m22, .inl (k 0, 600, .inl f22)), (m25, .inl (k 0, 4, .inl f25)), (m26, .inl (k 0, 8, .inl f26)), (m40, .inl (k 2, 1000, .inr (.inl f40))), (mo, .inr (12, [.int 0, .ref m1, .ref m2, .ref m3, .ref m4, .ref m5, .int v6, .int v7, .int v8, .int v9, .int v10, .long v11, .int v12, .int v13, .int v14, .int v15, .ref m16, .ref m17, .ref m18, .ref m19, .ref m20, .ref m21, .ref m22, .ref m23, .int v24, .ref m25, .ref m26, .ref m27, .ref m28, .ref m29, .int v30, .ref m31, .ref m32, .ref m33, .int v34, .int v35, .int v36, .ref m37, .ref m38, .ref m39, .ref m40, .long v41])), (m17, .inl (k 0, 30, .inl f17))] H1 := hP
  have hD : va_D A [(m18, .inl (k 0, 250, .inl f18)), (m19, .inl (k 0, 40, .inl f19)), (m22, .inl (k 0, 600, .inl f22)), (m25, .inl (k 0, 4, .inl f25)), (m26, .inl (k 0, 8, .inl f26)), (m40, .inl (k 2, 1000, .inr (.inl f40))), (mo, .inr (12, [.int 0, .ref m1, .ref m2, .ref m3, .ref m4, .ref m5, .int v6, .int v7, .int v8, .int v9, .int v10, .long v11, .int v12, .int v13, .int v14, .int v15, .ref m16, .ref m17, .ref m18, .ref m19, .ref m20, .ref m21, .ref m22, .ref m23, .int v24, .ref m25, .ref m26, .ref m27, .ref m28, .ref m29, .int v30, .ref m31, .ref m32, .ref m33, .int v34, .int v35, .int v36, .ref m37, .ref m38, .ref m39, .ref m40, .long v41])), (m17, .inl (k 0, 30, .inl f17))] := hD
  generalize H1 = H at hP hS ⊢
  have hw_2 : (0 ≤ r_1.toInt ∧ r_1.toInt ≤ 1) ∧ ((r_1.toInt = 1 ∧ 0 ≤ p0.toInt64.toInt ∧ p0.toInt64.toInt ≤ 7) ∨ r_1.toInt = 0) := hw
  obtain ⟨hw_3, hw_4⟩ := hw_2
  clear hw
  simp only [Int32.toInt_toInt64] at hw_3 hw_4
  refine lv_if_eq (tgt := 28) hx hb dX12_chance_11 (by decide) (fun h_5 => ?_) (fun h_5 => ?_)
  · skip
    have zh_5 : r_1.toInt = 0 := z_eq h_5
    refine lv_ldc2 (v := (-2)) hx hb hown (hts _ tw_8_186) dX12_chance_28 ?_
    obtain ⟨hP9, hD9⟩ := sub2 hP hD (ws' := [(mo, .inr (12, [.int 0, .ref m1, .ref m2, .ref m3, .ref m4, .ref m5, .int v6, .int v7, .int v8, .int v9, .int v10, .long v11, .int v12, .int v13, .int v14, .int v15, .ref m16, .ref m17, .ref m18, .ref m19, .ref m20, .ref m21, .ref m22, .ref m23, .int v24, .ref m25, .ref m26, .ref m27, .ref m28, .ref m29, .int v30, .ref m31, .ref m32, .ref m33, .int v34, .int v35, .int v36, .ref m37, .ref m38, .ref m39, .ref m40, .long v41])), (m17, .inl (k 0, 30, .inl f17)), (m18, .inl (k 0, 250, .inl f18)), (m19, .inl (k 0, 40, .inl f19)), (m22, .inl (k 0, 600, .inl f22)), (m25, .inl (k 0, 4, .inl f25)), (m26, .inl (k 0, 8, .inl f26)), (m40, .inl (k 2, 1000, .inr (.inl f40)))]) [6, 7, 0, 1, 2, 3, 4, 5] (by decide +kernel) rfl
    exact W.lret (v := (-2)) hx hb hr (fun tZ ht hW => ⟨⟨(-2), (0, v24, v41, f25, f26, f40), rfl, ⟨(show 0 ≤ 0 ∧ 0 ≤ 0 from by omega), (show 0 ≤ v24.toInt ∧ v24.toInt ≤ 1023 from by omega), hp_f25_0, hp_f26_0⟩, by rw [ht]; exact hP9, va_K.moved hW.alike hK, hD9⟩, hS.F ht⟩) hS.2.2 dX12_chance_31
  · skip
    have zh_5 : ¬ r_1.toInt = 0 := z_ne h_5
    refine lv_iload_n hx hb dX12_chance_14 rfl (lv_at hl 2 rfl) ?_
    obtain ⟨hPc, hDc, hFc⟩ := sub3 hP hD hS hA (ws' := []) [] (by decide +kernel) rfl
    refine va_calli (va_runS (As := [.int p1]) (rest := []) ⟨hx, hb, hml, hown, hts⟩ (c_X12_isMinute l D k p1 H.size) (va_cwS 1 hts (gS tw_7_185 tw_7_186 tw_1_13 tw_7_187) rfl rfl rfl hdS_X12_isMinute ⟨Nat.le_of_ble_eq_true rfl, Nat.le_of_ble_eq_true rfl⟩) (cz_S hK hPc hDc hN [.int p1]) rfl rfl hl.1 rfl (lv_room (Nat.le_of_ble_eq_true rfl)) dX12_chance_15 ⟨Nat.le_of_ble_eq_true rfl, Nat.le_of_ble_eq_true rfl⟩) hS (fun q _ h => hFc q h) hFc (fun r_6 uZ tZ H1 locs ht hvm hw hB hz1 hk1 hS => ?_)
    obtain ⟨hP1, hK1, hD1⟩ := hB
    rw [ht] at hP1
    obtain ⟨hP, hD⟩ := va_join (wr := [(m18, .inl (k 0, 250, .inl f18)), (m19, .inl (k 0, 40, .inl f19)), (m22, .inl (k 0, 600, .inl f22)), (m25, .inl (k 0, 4, .inl f25)), (m26, .inl (k 0, 8, .inl f26)), (m40, .inl (k 2, 1000, .inr (.inl f40))), (mo, .inr (12, [.int 0, .ref m1, .ref m2, .ref m3, .ref m4, .ref m5, .int v6, .int v7, .int v8, .int v9, .int v10, .long v11, .int v12, .int v13, .int v14, .int v15, .ref m16, .ref m17, .ref m18, .ref m19, .ref m20, .ref m21, .ref m22, .ref m23, .int v24, .ref m25, .ref m26, .ref m27, .ref m28, .ref m29, .int v30, .ref m31, .ref m32, .ref m33, .int v34, .int v35, .int v36, .ref m37, .ref m38, .ref m39, .ref m40, .long v41])), (m17, .inl (k 0, 30, .inl f17))]) (w1 := []) hP hD [] [0, 1, 2, 3, 4, 5, 6, 7] rfl rfl (by decide +kernel) (by decide +kernel) hk1 hFc hP1 hD1
    clear hK1 hP1 hD1 hPc hDc hFc
    clear hk1 hz1 ht hvm
    have hP : va_P D vwCl [(m18, .inl (k 0, 250, .inl f18)), (m19, .inl (k 0, 40, .inl f19)), (m22, .inl (k 0, 600, .inl f22)), (m25, .inl (k 0, 4, .inl f25)), (m26, .inl (k 0, 8, .inl f26)), (m40, .inl (k 2, 1000, .inr (.inl f40))), (mo, .inr (12, [.int 0, .ref m1, .ref m2, .ref m3, .ref m4, .ref m5, .int v6, .int v7, .int v8, .int v9, .int v10, .long v11, .int v12, .int v13, .int v14, .int v15, .ref m16, .ref m17, .ref m18, .ref m19, .ref m20, .ref m21, .ref m22, .ref m23, .int v24, .ref m25, .ref m26, .ref m27, .ref m28, .ref m29, .int v30, .ref m31, .ref m32, .ref m33, .int v34, .int v35, .int v36, .ref m37, .ref m38, .ref m39, .ref m40, .long v41])), (m17, .inl (k 0, 30, .inl f17))] H1 := hP
    have hD : va_D A [(m18, .inl (k 0, 250, .inl f18)), (m19, .inl (k 0, 40, .inl f19)), (m22, .inl (k 0, 600, .inl f22)), (m25, .inl (k 0, 4, .inl f25)), (m26, .inl (k 0, 8, .inl f26)), (m40, .inl (k 2, 1000, .inr (.inl f40))), (mo, .inr (12, [.int 0, .ref m1, .ref m2, .ref m3, .ref m4, .ref m5, .int v6, .int v7, .int v8, .int v9, .int v10, .long v11, .int v12, .int v13, .int v14, .int v15, .ref m16, .ref m17, .ref m18, .ref m19, .ref m20, .ref m21, .ref m22, .ref m23, .int v24, .ref m25, .ref m26, .ref m27, .ref m28, .ref m29, .int v30, .ref m31, .ref m32, .ref m33, .int v34, .int v35, .int v36, .ref m37, .ref m38, .ref m39, .ref m40, .long v41])), (m17, .inl (k 0, 30, .inl f17))] := hD
    generalize H1 = H at hP hS ⊢
    have hw_7 : (0 ≤ r_6.toInt ∧ r_6.toInt ≤ 1) ∧ ((r_6.toInt = 1 ∧ 0 ≤ p1.toInt ∧ p1.toInt ≤ 999) ∨ r_6.toInt = 0) := hw
    obtain ⟨hw_8, hw_9⟩ := hw_7
    clear hw
    refine lv_if_eq (tgt := 28) hx hb dX12_chance_18 (by decide) (fun h_10 => ?_) (fun h_10 => ?_)
    · skip
      have zh_10 : r_6.toInt = 0 := z_eq h_10
      refine lv_ldc2 (v := (-2)) hx hb hown (hts _ tw_8_186) dX12_chance_28 ?_
      obtain ⟨hP9, hD9⟩ := sub2 hP hD (ws' := [(mo, .inr (12, [.int 0, .ref m1, .ref m2, .ref m3, .ref m4, .ref m5, .int v6, .int v7, .int v8, .int v9, .int v10, .long v11, .int v12, .int v13, .int v14, .int v15, .ref m16, .ref m17, .ref m18, .ref m19, .ref m20, .ref m21, .ref m22, .ref m23, .int v24, .ref m25, .ref m26, .ref m27, .ref m28, .ref m29, .int v30, .ref m31, .ref m32, .ref m33, .int v34, .int v35, .int v36, .ref m37, .ref m38, .ref m39, .ref m40, .long v41])), (m17, .inl (k 0, 30, .inl f17)), (m18, .inl (k 0, 250, .inl f18)), (m19, .inl (k 0, 40, .inl f19)), (m22, .inl (k 0, 600, .inl f22)), (m25, .inl (k 0, 4, .inl f25)), (m26, .inl (k 0, 8, .inl f26)), (m40, .inl (k 2, 1000, .inr (.inl f40)))]) [6, 7, 0, 1, 2, 3, 4, 5] (by decide +kernel) rfl
      exact W.lret (v := (-2)) hx hb hr (fun tZ ht hW => ⟨⟨(-2), (0, v24, v41, f25, f26, f40), rfl, ⟨(show 0 ≤ 0 ∧ 0 ≤ 0 from by omega), (show 0 ≤ v24.toInt ∧ v24.toInt ≤ 1023 from by omega), hp_f25_0, hp_f26_0⟩, by rw [ht]; exact hP9, va_K.moved hW.alike hK, hD9⟩, hS.F ht⟩) hS.2.2 dX12_chance_31
    · skip
      have zh_10 : ¬ r_6.toInt = 0 := z_ne h_10
      refine lv_iload_n hx hb dX12_chance_21 rfl (lv_at hl 3 rfl) ?_
      obtain ⟨hPc, hDc, hFc⟩ := sub3 hP hD hS hA (ws' := []) [] (by decide +kernel) rfl
      refine va_calli (va_runS (As := [.int p2]) (rest := []) ⟨hx, hb, hml, hown, hts⟩ (c_X12_isHalf l D k p2 H.size) (va_cwS 1 hts (gS tw_7_118 tw_7_119 tw_1_13 tw_7_120) rfl rfl rfl hdS_X12_isHalf ⟨Nat.le_of_ble_eq_true rfl, Nat.le_of_ble_eq_true rfl⟩) (cz_S hK hPc hDc hN [.int p2]) rfl rfl hl.1 rfl (lv_room (Nat.le_of_ble_eq_true rfl)) dX12_chance_22 ⟨Nat.le_of_ble_eq_true rfl, Nat.le_of_ble_eq_true rfl⟩) hS (fun q _ h => hFc q h) hFc (fun r_11 uZ tZ H1 locs ht hvm hw hB hz1 hk1 hS => ?_)
      obtain ⟨hP1, hK1, hD1⟩ := hB
      rw [ht] at hP1
      obtain ⟨hP, hD⟩ := va_join (wr := [(m18, .inl (k 0, 250, .inl f18)), (m19, .inl (k 0, 40, .inl f19)), (m22, .inl (k 0, 600, .inl f22)), (m25, .inl (k 0, 4, .inl f25)), (m26, .inl (k 0, 8, .inl f26)), (m40, .inl (k 2, 1000, .inr (.inl f40))), (mo, .inr (12, [.int 0, .ref m1, .ref m2, .ref m3, .ref m4, .ref m5, .int v6, .int v7, .int v8, .int v9, .int v10, .long v11, .int v12, .int v13, .int v14, .int v15, .ref m16, .ref m17, .ref m18, .ref m19, .ref m20, .ref m21, .ref m22, .ref m23, .int v24, .ref m25, .ref m26, .ref m27, .ref m28, .ref m29, .int v30, .ref m31, .ref m32, .ref m33, .int v34, .int v35, .int v36, .ref m37, .ref m38, .ref m39, .ref m40, .long v41])), (m17, .inl (k 0, 30, .inl f17))]) (w1 := []) hP hD [] [0, 1, 2, 3, 4, 5, 6, 7] rfl rfl (by decide +kernel) (by decide +kernel) hk1 hFc hP1 hD1
      clear hK1 hP1 hD1 hPc hDc hFc
      clear hk1 hz1 ht hvm
      have hP : va_P D vwCl [(m18, .inl (k 0, 250, .inl f18)), (m19, .inl (k 0, 40, .inl f19)), (m22, .inl (k 0, 600, .inl f22)), (m25, .inl (k 0, 4, .inl f25)), (m26, .inl (k 0, 8, .inl f26)), (m40, .inl (k 2, 1000, .inr (.inl f40))), (mo, .inr (12, [.int 0, .ref m1, .ref m2, .ref m3, .ref m4, .ref m5, .int v6, .int v7, .int v8, .int v9, .int v10, .long v11, .int v12, .int v13, .int v14, .int v15, .ref m16, .ref m17, .ref m18, .ref m19, .ref m20, .ref m21, .ref m22, .ref m23, .int v24, .ref m25, .ref m26, .ref m27, .ref m28, .ref m29, .int v30, .ref m31, .ref m32, .ref m33, .int v34, .int v35, .int v36, .ref m37, .ref m38, .ref m39, .ref m40, .long v41])), (m17, .inl (k 0, 30, .inl f17))] H1 := hP
      have hD : va_D A [(m18, .inl (k 0, 250, .inl f18)), (m19, .inl (k 0, 40, .inl f19)), (m22, .inl (k 0, 600, .inl f22)), (m25, .inl (k 0, 4, .inl f25)), (m26, .inl (k 0, 8, .inl f26)), (m40, .inl (k 2, 1000, .inr (.inl f40))), (mo, .inr (12, [.int 0, .ref m1, .ref m2, .ref m3, .ref m4, .ref m5, .int v6, .int v7, .int v8, .int v9, .int v10, .long v11, .int v12, .int v13, .int v14, .int v15, .ref m16, .ref m17, .ref m18, .ref m19, .ref m20, .ref m21, .ref m22, .ref m23, .int v24, .ref m25, .ref m26, .ref m27, .ref m28, .ref m29, .int v30, .ref m31, .ref m32, .ref m33, .int v34, .int v35, .int v36, .ref m37, .ref m38, .ref m39, .ref m40, .long v41])), (m17, .inl (k 0, 30, .inl f17))] := hD
      generalize H1 = H at hP hS ⊢
      have hw_12 : (0 ≤ r_11.toInt ∧ r_11.toInt ≤ 1) ∧ ((r_11.toInt = 1 ∧ 0 ≤ p2.toInt ∧ p2.toInt ≤ 1) ∨ r_11.toInt = 0) := hw
      obtain ⟨hw_13, hw_14⟩ := hw_12
      clear hw
      refine lv_if_ne (tgt := 32) hx hb dX12_chance_25 (by decide) (fun h_15 => ?_) (fun h_15 => ?_)
      · skip
        have zh_15 : ¬ r_11.toInt = 0 := z_ne h_15
        refine lv_aload_n hx hb dX12_chance_32 rfl (lv_at hl 0 rfl) ?_
        refine lv_iload_n hx hb dX12_chance_33 rfl (lv_at hl 1 rfl) ?_
        obtain ⟨hPc, hDc, hFc⟩ := sub3 hP hD hS hA (ws' := [(mo, .inr (12, [.int 0, .ref m1, .ref m2, .ref m3, .ref m4, .ref m5, .int v6, .int v7, .int v8, .int v9, .int v10, .long v11, .int v12, .int v13, .int v14, .int v15, .ref m16, .ref m17, .ref m18, .ref m19, .ref m20, .ref m21, .ref m22, .ref m23, .int v24, .ref m25, .ref m26, .ref m27, .ref m28, .ref m29, .int v30, .ref m31, .ref m32, .ref m33, .int v34, .int v35, .int v36, .ref m37, .ref m38, .ref m39, .ref m40, .long v41])), (m17, .inl (k 0, 30, .inl f17)), (m18, .inl (k 0, 250, .inl f18)), (m19, .inl (k 0, 40, .inl f19)), (m22, .inl (k 0, 600, .inl f22)), (m25, .inl (k 0, 4, .inl f25)), (m26, .inl (k 0, 8, .inl f26)), (m40, .inl (k 2, 1000, .inr (.inl f40)))]) [6, 7, 0, 1, 2, 3, 4, 5] (by decide +kernel) rfl
        refine va_callv (va_runV (C := RX12) (As := [.int p0]) (rest := []) ⟨hx, hb, hml, hown, hts⟩ (c_X12_laysChance l D k mo p0 0 m1 m2 m3 m4 m5 v6 v7 v8 v9 v10 v11 v12 v13 v14 v15 m16 m17 m18 m19 m20 m21 m22 m23 v24 m25 m26 m27 m28 m29 v30 m31 m32 m33 v34 v35 v36 m37 m38 m39 m40 v41 f17 f18 f19 f22 f25 f26 f40 H.size (show 0 ≤ p0.toInt ∧ p0.toInt ≤ 7 from by omega) (show 0 ≤ v6.toInt ∧ v6.toInt ≤ 1000 from by omega) (show 0 ≤ v24.toInt ∧ v24.toInt ≤ 1023 from by omega) hp_f17_0 hp_f17_1 hp_f17_2 hp_f17_3 hp_f17_4 hp_f17_5 hp_f18_0 hp_f18_1 hp_f18_2 hp_f18_3 hp_f19_0 hp_f19_1 hp_f22_0 hp_f22_1 hp_f22_2 hp_f25_0 hp_f26_0) (cwV 1 hts (gV tw_8_187 tw_8_189 tw_p_94 tw_1_13 tw_8_190) rfl rfl rfl hdV_X12_laysChance ⟨Nat.le_of_ble_eq_true rfl, Nat.le_of_ble_eq_true rfl⟩) (cz_V hK hPc hDc hN (ci := 12) (q0 := 0) rfl rfl [.int p0]) rfl rfl hl.1 rfl (lv_room (Nat.le_of_ble_eq_true rfl)) dX12_chance_34 ⟨Nat.le_of_ble_eq_true rfl, Nat.le_of_ble_eq_true rfl⟩) hS (fun q _ h => hFc q h) hFc (fun uZ tZ H1 locs ht hvm hw hB hz1 hk1 hS => ?_)
        obtain ⟨o_17, o_18, o_19, o_20, o_21⟩ := uZ
        obtain ⟨hP1, hK1, hD1⟩ := hB
        rw [ht] at hP1
        obtain ⟨hP, hD⟩ := va_join (wr := []) (w1 := [(mo, .inr (12, [.int 0, .ref m1, .ref m2, .ref m3, .ref m4, .ref m5, .int v6, .int v7, .int v8, .int v9, .int v10, .long v11, .int v12, .int v13, .int v14, .int v15, .ref m16, .ref m17, .ref m18, .ref m19, .ref m20, .ref m21, .ref m22, .ref m23, .int o_17, .ref m25, .ref m26, .ref m27, .ref m28, .ref m29, .int v30, .ref m31, .ref m32, .ref m33, .int v34, .int v35, .int v36, .ref m37, .ref m38, .ref m39, .ref m40, .long o_18])), (m17, .inl (k 0, 30, .inl f17)), (m18, .inl (k 0, 250, .inl f18)), (m19, .inl (k 0, 40, .inl f19)), (m22, .inl (k 0, 600, .inl f22)), (m25, .inl (k 0, 4, .inl o_19)), (m26, .inl (k 0, 8, .inl o_20)), (m40, .inl (k 2, 1000, .inr (.inl o_21)))]) hP hD [6, 7, 0, 1, 2, 3, 4, 5] [] rfl rfl (by decide +kernel) (by decide +kernel) hk1 hFc hP1 hD1
        clear hK1 hP1 hD1 hPc hDc hFc
        clear hk1 hz1 ht hvm
        have hP : va_P D vwCl [(mo, .inr (12, [.int 0, .ref m1, .ref m2, .ref m3, .ref m4, .ref m5, .int v6, .int v7, .int v8, .int v9, .int v10, .long v11, .int v12, .int v13, .int v14, .int v15, .ref m16, .ref m17, .ref m18, .ref m19, .ref m20, .ref m21, .ref m22, .ref m23, .int o_17, .ref m25, .ref m26, .ref m27, .ref m28, .ref m29, .int v30, .ref m31, .ref m32, .ref m33, .int v34, .int v35, .int v36, .ref m37, .ref m38, .ref m39, .ref m40, .long o_18])), (m17, .inl (k 0, 30, .inl f17)), (m18, .inl (k 0, 250, .inl f18)), (m19, .inl (k 0, 40, .inl f19)), (m22, .inl (k 0, 600, .inl f22)), (m25, .inl (k 0, 4, .inl o_19)), (m26, .inl (k 0, 8, .inl o_20)), (m40, .inl (k 2, 1000, .inr (.inl o_21)))] H1 := hP
        have hD : va_D A [(mo, .inr (12, [.int 0, .ref m1, .ref m2, .ref m3, .ref m4, .ref m5, .int v6, .int v7, .int v8, .int v9, .int v10, .long v11, .int v12, .int v13, .int v14, .int v15, .ref m16, .ref m17, .ref m18, .ref m19, .ref m20, .ref m21, .ref m22, .ref m23, .int o_17, .ref m25, .ref m26, .ref m27, .ref m28, .ref m29, .int v30, .ref m31, .ref m32, .ref m33, .int v34, .int v35, .int v36, .ref m37, .ref m38, .ref m39, .ref m40, .long o_18])), (m17, .inl (k 0, 30, .inl f17)), (m18, .inl (k 0, 250, .inl f18)), (m19, .inl (k 0, 40, .inl f19)), (m22, .inl (k 0, 600, .inl f22)), (m25, .inl (k 0, 4, .inl o_19)), (m26, .inl (k 0, 8, .inl o_20)), (m40, .inl (k 2, 1000, .inr (.inl o_21)))] := hD
        generalize H1 = H at hP hS ⊢
        have hw_22 : (0 ≤ o_17.toInt ∧ o_17.toInt ≤ 1023) ∧ (PR 4 1 0 0 99 o_19) ∧ (PR 8 1 0 0 100000 o_20) ∧ (1 ≤ o_18.toInt ∧ o_18.toInt ≤ 10000000000) := hw
        obtain ⟨hw_23, hw_24, hw_25, hw_26⟩ := hw_22
        clear hw
        refine lv_lconst (v := 0) hx hb dX12_chance_37 (by decide) ?_
        refine lv_lstore (lv' := [(4, .long 0), (0, .ref mo), (1, .int p0), (2, .int p1), (3, .int p2)]) hx hb dX12_chance_38 hl (by decide) rfl (fun ls hl => ?_)
        refine lv_iconst (v := 0) hx hb dX12_chance_40 (by decide) ?_
        refine lv_istore (lv' := [(6, .int 0), (4, .long 0), (0, .ref mo), (1, .int p0), (2, .int p1), (3, .int p2)]) hx hb dX12_chance_41 hl (by decide) rfl (fun ls hl => ?_)
        refine loop_r (Wg := fun H locs ls => W p l e _ s m _ below meth c H locs _ _ _ (F0 m 43 ls [])) (fun n9 H locs ls => ∃ (L43l4 : Int64) (L43l6 : Int32), n9 = (1000 - L43l6.toInt).toNat ∧ (0 ≤ L43l6.toInt ∧ L43l6.toInt ≤ 1000) ∧ va_P D vwCl [(mo, .inr (12, [.int 0, .ref m1, .ref m2, .ref m3, .ref m4, .ref m5, .int v6, .int v7, .int v8, .int v9, .int v10, .long v11, .int v12, .int v13, .int v14, .int v15, .ref m16, .ref m17, .ref m18, .ref m19, .ref m20, .ref m21, .ref m22, .ref m23, .int o_17, .ref m25, .ref m26, .ref m27, .ref m28, .ref m29, .int v30, .ref m31, .ref m32, .ref m33, .int v34, .int v35, .int v36, .ref m37, .ref m38, .ref m39, .ref m40, .long o_18])), (m17, .inl (k 0, 30, .inl f17)), (m18, .inl (k 0, 250, .inl f18)), (m19, .inl (k 0, 40, .inl f19)), (m22, .inl (k 0, 600, .inl f22)), (m25, .inl (k 0, 4, .inl o_19)), (m26, .inl (k 0, 8, .inl o_20)), (m40, .inl (k 2, 1000, .inr (.inl o_21)))] H ∧ va_D A [(mo, .inr (12, [.int 0, .ref m1, .ref m2, .ref m3, .ref m4, .ref m5, .int v6, .int v7, .int v8, .int v9, .int v10, .long v11, .int v12, .int v13, .int v14, .int v15, .ref m16, .ref m17, .ref m18, .ref m19, .ref m20, .ref m21, .ref m22, .ref m23, .int o_17, .ref m25, .ref m26, .ref m27, .ref m28, .ref m29, .int v30, .ref m31, .ref m32, .ref m33, .int v34, .int v35, .int v36, .ref m37, .ref m38, .ref m39, .ref m40, .long o_18])), (m17, .inl (k 0, 30, .inl f17)), (m18, .inl (k 0, 250, .inl f18)), (m19, .inl (k 0, 40, .inl f19)), (m22, .inl (k 0, 600, .inl f22)), (m25, .inl (k 0, 4, .inl o_19)), (m26, .inl (k 0, 8, .inl o_20)), (m40, .inl (k 2, 1000, .inr (.inl o_21)))] ∧ va_S A s.heap H locs ∧ lv_has ls 7 [(0, .ref mo), (1, .int p0), (2, .int p1), (3, .int p2), (4, .long L43l4), (6, .int L43l6)]) (fun n9 H locs ls hI ih_27 => ?_) _ _ _ _ ⟨0, 0, rfl, (show 0 ≤ 0 ∧ 0 ≤ 1000 from by omega), hP.sub (ws' := [(mo, .inr (12, [.int 0, .ref m1, .ref m2, .ref m3, .ref m4, .ref m5, .int v6, .int v7, .int v8, .int v9, .int v10, .long v11, .int v12, .int v13, .int v14, .int v15, .ref m16, .ref m17, .ref m18, .ref m19, .ref m20, .ref m21, .ref m22, .ref m23, .int o_17, .ref m25, .ref m26, .ref m27, .ref m28, .ref m29, .int v30, .ref m31, .ref m32, .ref m33, .int v34, .int v35, .int v36, .ref m37, .ref m38, .ref m39, .ref m40, .long o_18])), (m17, .inl (k 0, 30, .inl f17)), (m18, .inl (k 0, 250, .inl f18)), (m19, .inl (k 0, 40, .inl f19)), (m22, .inl (k 0, 600, .inl f22)), (m25, .inl (k 0, 4, .inl o_19)), (m26, .inl (k 0, 8, .inl o_20)), (m40, .inl (k 2, 1000, .inr (.inl o_21)))]) [0, 1, 2, 3, 4, 5, 6, 7] rfl, hD.sub (ws' := [(mo, .inr (12, [.int 0, .ref m1, .ref m2, .ref m3, .ref m4, .ref m5, .int v6, .int v7, .int v8, .int v9, .int v10, .long v11, .int v12, .int v13, .int v14, .int v15, .ref m16, .ref m17, .ref m18, .ref m19, .ref m20, .ref m21, .ref m22, .ref m23, .int o_17, .ref m25, .ref m26, .ref m27, .ref m28, .ref m29, .int v30, .ref m31, .ref m32, .ref m33, .int v34, .int v35, .int v36, .ref m37, .ref m38, .ref m39, .ref m40, .long o_18])), (m17, .inl (k 0, 30, .inl f17)), (m18, .inl (k 0, 250, .inl f18)), (m19, .inl (k 0, 40, .inl f19)), (m22, .inl (k 0, 600, .inl f22)), (m25, .inl (k 0, 4, .inl o_19)), (m26, .inl (k 0, 8, .inl o_20)), (m40, .inl (k 2, 1000, .inr (.inl o_21)))]) [0, 1, 2, 3, 4, 5, 6, 7] (by decide +kernel) rfl, hS, lv_sub hl [2, 3, 4, 5, 1, 0] rfl⟩
        clear hP hD hS hl
        obtain ⟨L43l4, L43l6, en_28, zL43l6, hP, hD, hS, hl⟩ := hI
        refine lv_iload hx hb dX12_chance_43 (lv_at hl 5 rfl) ?_
        refine lv_iload_n hx hb dX12_chance_45 rfl (lv_at hl 2 rfl) ?_
        refine lv_icmp_gt (tgt := 67) hx hb dX12_chance_46 (by decide) (fun h_29 => ?_) (fun h_29 => ?_)
        · skip
          have zh_29 : p1.toInt < L43l6.toInt := z_lt h_29
          refine lv_iload_n hx hb dX12_chance_67 rfl (lv_at hl 3 rfl) ?_
          refine lv_if_ne (tgt := 76) hx hb dX12_chance_68 (by decide) (fun h_30 => ?_) (fun h_30 => ?_)
          · skip
            have zh_30 : ¬ p2.toInt = 0 := z_ne h_30
            refine lv_aload_n hx hb dX12_chance_76 rfl (lv_at hl 0 rfl) ?_
            refine va_get (D := D) (ci := 12) (v := .long o_18) (C := RX12) (T := TX12) (N := 42) hx hb hts iT_X12 hown hK hP 0 rfl rfl 41 (by decide) (hts _ tw_6_94) (fun _ h9 => h9) rfl dX12_chance_77 ?_
            refine lv_lload hx hb dX12_chance_80 (lv_at hl 4 rfl) ?_
            refine lv_aload_n hx hb dX12_chance_82 rfl (lv_at hl 0 rfl) ?_
            refine va_get (D := D) (ci := 12) (v := .long o_18) (C := RX12) (T := TX12) (N := 42) hx hb hts iT_X12 hown hK hP 0 rfl rfl 41 (by decide) (hts _ tw_6_94) (fun _ h9 => h9) rfl dX12_chance_83 ?_
            obtain ⟨hPc, hDc, hFc⟩ := sub3 hP hD hS hA (ws' := []) [] (by decide +kernel) rfl
            refine va_calll (va_runS (As := [.long L43l4, .long o_18]) (rest := [.long o_18]) ⟨hx, hb, hml, hown, hts⟩ (c_X12_common_58 l D k L43l4 o_18 H.size (show 1 ≤ o_18.toInt ∧ o_18.toInt ≤ 10000000000 from by omega)) (va_cwS 2 hts (gS tw_8_192 tw_8_193 tw_1_13 tw_8_194) rfl rfl rfl hdS_X12_common ⟨Nat.le_of_ble_eq_true rfl, Nat.le_of_ble_eq_true rfl⟩) (cz_S hK hPc hDc hN [.long L43l4, .long o_18]) rfl rfl hl.1 rfl (lv_room (Nat.le_of_ble_eq_true rfl)) dX12_chance_86 ⟨Nat.le_of_ble_eq_true rfl, Nat.le_of_ble_eq_true rfl⟩) hS (fun q _ h => hFc q h) hFc (fun r_31 uZ tZ H1 locs ht hvm hw hB hz1 hk1 hS => ?_)
            obtain ⟨hP1, hK1, hD1⟩ := hB
            rw [ht] at hP1
            obtain ⟨hP, hD⟩ := va_join (wr := [(mo, .inr (12, [.int 0, .ref m1, .ref m2, .ref m3, .ref m4, .ref m5, .int v6, .int v7, .int v8, .int v9, .int v10, .long v11, .int v12, .int v13, .int v14, .int v15, .ref m16, .ref m17, .ref m18, .ref m19, .ref m20, .ref m21, .ref m22, .ref m23, .int o_17, .ref m25, .ref m26, .ref m27, .ref m28, .ref m29, .int v30, .ref m31, .ref m32, .ref m33, .int v34, .int v35, .int v36, .ref m37, .ref m38, .ref m39, .ref m40, .long o_18])), (m17, .inl (k 0, 30, .inl f17)), (m18, .inl (k 0, 250, .inl f18)), (m19, .inl (k 0, 40, .inl f19)), (m22, .inl (k 0, 600, .inl f22)), (m25, .inl (k 0, 4, .inl o_19)), (m26, .inl (k 0, 8, .inl o_20)), (m40, .inl (k 2, 1000, .inr (.inl o_21)))]) (w1 := []) hP hD [] [0, 1, 2, 3, 4, 5, 6, 7] rfl rfl (by decide +kernel) (by decide +kernel) hk1 hFc hP1 hD1
            clear hK1 hP1 hD1 hPc hDc hFc
            clear hk1 hz1 ht hvm
            have hP : va_P D vwCl [(mo, .inr (12, [.int 0, .ref m1, .ref m2, .ref m3, .ref m4, .ref m5, .int v6, .int v7, .int v8, .int v9, .int v10, .long v11, .int v12, .int v13, .int v14, .int v15, .ref m16, .ref m17, .ref m18, .ref m19, .ref m20, .ref m21, .ref m22, .ref m23, .int o_17, .ref m25, .ref m26, .ref m27, .ref m28, .ref m29, .int v30, .ref m31, .ref m32, .ref m33, .int v34, .int v35, .int v36, .ref m37, .ref m38, .ref m39, .ref m40, .long o_18])), (m17, .inl (k 0, 30, .inl f17)), (m18, .inl (k 0, 250, .inl f18)), (m19, .inl (k 0, 40, .inl f19)), (m22, .inl (k 0, 600, .inl f22)), (m25, .inl (k 0, 4, .inl o_19)), (m26, .inl (k 0, 8, .inl o_20)), (m40, .inl (k 2, 1000, .inr (.inl o_21)))] H1 := hP
            have hD : va_D A [(mo, .inr (12, [.int 0, .ref m1, .ref m2, .ref m3, .ref m4, .ref m5, .int v6, .int v7, .int v8, .int v9, .int v10, .long v11, .int v12, .int v13, .int v14, .int v15, .ref m16, .ref m17, .ref m18, .ref m19, .ref m20, .ref m21, .ref m22, .ref m23, .int o_17, .ref m25, .ref m26, .ref m27, .ref m28, .ref m29, .int v30, .ref m31, .ref m32, .ref m33, .int v34, .int v35, .int v36, .ref m37, .ref m38, .ref m39, .ref m40, .long o_18])), (m17, .inl (k 0, 30, .inl f17)), (m18, .inl (k 0, 250, .inl f18)), (m19, .inl (k 0, 40, .inl f19)), (m22, .inl (k 0, 600, .inl f22)), (m25, .inl (k 0, 4, .inl o_19)), (m26, .inl (k 0, 8, .inl o_20)), (m40, .inl (k 2, 1000, .inr (.inl o_21)))] := hD
            generalize H1 = H at hP hS ⊢
            have hw_32 : (¬ r_31.toInt = 0) := hw
            have hw_33 := hw_32
            clear hw
            refine lv_ldiv hx hb dX12_chance_89 (fun q9 => by have := congrArg (fun v : Int64 => v.toInt) q9; simp at this; omega) ?_
            refine lv_topl (fun x_34 ex_34 => ?_)
            obtain ⟨hP9, hD9⟩ := sub2 hP hD (ws' := [(mo, .inr (12, [.int 0, .ref m1, .ref m2, .ref m3, .ref m4, .ref m5, .int v6, .int v7, .int v8, .int v9, .int v10, .long v11, .int v12, .int v13, .int v14, .int v15, .ref m16, .ref m17, .ref m18, .ref m19, .ref m20, .ref m21, .ref m22, .ref m23, .int o_17, .ref m25, .ref m26, .ref m27, .ref m28, .ref m29, .int v30, .ref m31, .ref m32, .ref m33, .int v34, .int v35, .int v36, .ref m37, .ref m38, .ref m39, .ref m40, .long o_18])), (m17, .inl (k 0, 30, .inl f17)), (m18, .inl (k 0, 250, .inl f18)), (m19, .inl (k 0, 40, .inl f19)), (m22, .inl (k 0, 600, .inl f22)), (m25, .inl (k 0, 4, .inl o_19)), (m26, .inl (k 0, 8, .inl o_20)), (m40, .inl (k 2, 1000, .inr (.inl o_21)))]) [0, 1, 2, 3, 4, 5, 6, 7] (by decide +kernel) rfl
            exact W.lret (v := x_34) hx hb hr (fun tZ ht hW => ⟨⟨x_34, (0, o_17, o_18, o_19, o_20, o_21), rfl, ⟨(show 0 ≤ 0 ∧ 0 ≤ 0 from by omega), (show 0 ≤ o_17.toInt ∧ o_17.toInt ≤ 1023 from by omega), hw_24, hw_25⟩, by rw [ht]; exact hP9, va_K.moved hW.alike hK, hD9⟩, hS.F ht⟩) hS.2.2 dX12_chance_90
          · skip
            have zh_30 : p2.toInt = 0 := z_eq h_30
            refine lv_lload hx hb dX12_chance_71 (lv_at hl 4 rfl) ?_
            refine lv_goto (tgt := 80) hx hb dX12_chance_73 (by decide) ?_
            refine lv_lload hx hb dX12_chance_80 (lv_at hl 4 rfl) ?_
            refine lv_aload_n hx hb dX12_chance_82 rfl (lv_at hl 0 rfl) ?_
            refine va_get (D := D) (ci := 12) (v := .long o_18) (C := RX12) (T := TX12) (N := 42) hx hb hts iT_X12 hown hK hP 0 rfl rfl 41 (by decide) (hts _ tw_6_94) (fun _ h9 => h9) rfl dX12_chance_83 ?_
            obtain ⟨hPc, hDc, hFc⟩ := sub3 hP hD hS hA (ws' := []) [] (by decide +kernel) rfl
            refine va_calll (va_runS (As := [.long L43l4, .long o_18]) (rest := [.long L43l4]) ⟨hx, hb, hml, hown, hts⟩ (c_X12_common_58 l D k L43l4 o_18 H.size (show 1 ≤ o_18.toInt ∧ o_18.toInt ≤ 10000000000 from by omega)) (va_cwS 2 hts (gS tw_8_192 tw_8_193 tw_1_13 tw_8_194) rfl rfl rfl hdS_X12_common ⟨Nat.le_of_ble_eq_true rfl, Nat.le_of_ble_eq_true rfl⟩) (cz_S hK hPc hDc hN [.long L43l4, .long o_18]) rfl rfl hl.1 rfl (lv_room (Nat.le_of_ble_eq_true rfl)) dX12_chance_86 ⟨Nat.le_of_ble_eq_true rfl, Nat.le_of_ble_eq_true rfl⟩) hS (fun q _ h => hFc q h) hFc (fun r_35 uZ tZ H1 locs ht hvm hw hB hz1 hk1 hS => ?_)
            obtain ⟨hP1, hK1, hD1⟩ := hB
            rw [ht] at hP1
            obtain ⟨hP, hD⟩ := va_join (wr := [(mo, .inr (12, [.int 0, .ref m1, .ref m2, .ref m3, .ref m4, .ref m5, .int v6, .int v7, .int v8, .int v9, .int v10, .long v11, .int v12, .int v13, .int v14, .int v15, .ref m16, .ref m17, .ref m18, .ref m19, .ref m20, .ref m21, .ref m22, .ref m23, .int o_17, .ref m25, .ref m26, .ref m27, .ref m28, .ref m29, .int v30, .ref m31, .ref m32, .ref m33, .int v34, .int v35, .int v36, .ref m37, .ref m38, .ref m39, .ref m40, .long o_18])), (m17, .inl (k 0, 30, .inl f17)), (m18, .inl (k 0, 250, .inl f18)), (m19, .inl (k 0, 40, .inl f19)), (m22, .inl (k 0, 600, .inl f22)), (m25, .inl (k 0, 4, .inl o_19)), (m26, .inl (k 0, 8, .inl o_20)), (m40, .inl (k 2, 1000, .inr (.inl o_21)))]) (w1 := []) hP hD [] [0, 1, 2, 3, 4, 5, 6, 7] rfl rfl (by decide +kernel) (by decide +kernel) hk1 hFc hP1 hD1
            clear hK1 hP1 hD1 hPc hDc hFc
            clear hk1 hz1 ht hvm
            have hP : va_P D vwCl [(mo, .inr (12, [.int 0, .ref m1, .ref m2, .ref m3, .ref m4, .ref m5, .int v6, .int v7, .int v8, .int v9, .int v10, .long v11, .int v12, .int v13, .int v14, .int v15, .ref m16, .ref m17, .ref m18, .ref m19, .ref m20, .ref m21, .ref m22, .ref m23, .int o_17, .ref m25, .ref m26, .ref m27, .ref m28, .ref m29, .int v30, .ref m31, .ref m32, .ref m33, .int v34, .int v35, .int v36, .ref m37, .ref m38, .ref m39, .ref m40, .long o_18])), (m17, .inl (k 0, 30, .inl f17)), (m18, .inl (k 0, 250, .inl f18)), (m19, .inl (k 0, 40, .inl f19)), (m22, .inl (k 0, 600, .inl f22)), (m25, .inl (k 0, 4, .inl o_19)), (m26, .inl (k 0, 8, .inl o_20)), (m40, .inl (k 2, 1000, .inr (.inl o_21)))] H1 := hP
            have hD : va_D A [(mo, .inr (12, [.int 0, .ref m1, .ref m2, .ref m3, .ref m4, .ref m5, .int v6, .int v7, .int v8, .int v9, .int v10, .long v11, .int v12, .int v13, .int v14, .int v15, .ref m16, .ref m17, .ref m18, .ref m19, .ref m20, .ref m21, .ref m22, .ref m23, .int o_17, .ref m25, .ref m26, .ref m27, .ref m28, .ref m29, .int v30, .ref m31, .ref m32, .ref m33, .int v34, .int v35, .int v36, .ref m37, .ref m38, .ref m39, .ref m40, .long o_18])), (m17, .inl (k 0, 30, .inl f17)), (m18, .inl (k 0, 250, .inl f18)), (m19, .inl (k 0, 40, .inl f19)), (m22, .inl (k 0, 600, .inl f22)), (m25, .inl (k 0, 4, .inl o_19)), (m26, .inl (k 0, 8, .inl o_20)), (m40, .inl (k 2, 1000, .inr (.inl o_21)))] := hD
            generalize H1 = H at hP hS ⊢
            have hw_36 : (¬ r_35.toInt = 0) := hw
            have hw_37 := hw_36
            clear hw
            refine lv_ldiv hx hb dX12_chance_89 (fun q9 => by have := congrArg (fun v : Int64 => v.toInt) q9; simp at this; omega) ?_
            refine lv_topl (fun x_38 ex_38 => ?_)
            obtain ⟨hP9, hD9⟩ := sub2 hP hD (ws' := [(mo, .inr (12, [.int 0, .ref m1, .ref m2, .ref m3, .ref m4, .ref m5, .int v6, .int v7, .int v8, .int v9, .int v10, .long v11, .int v12, .int v13, .int v14, .int v15, .ref m16, .ref m17, .ref m18, .ref m19, .ref m20, .ref m21, .ref m22, .ref m23, .int o_17, .ref m25, .ref m26, .ref m27, .ref m28, .ref m29, .int v30, .ref m31, .ref m32, .ref m33, .int v34, .int v35, .int v36, .ref m37, .ref m38, .ref m39, .ref m40, .long o_18])), (m17, .inl (k 0, 30, .inl f17)), (m18, .inl (k 0, 250, .inl f18)), (m19, .inl (k 0, 40, .inl f19)), (m22, .inl (k 0, 600, .inl f22)), (m25, .inl (k 0, 4, .inl o_19)), (m26, .inl (k 0, 8, .inl o_20)), (m40, .inl (k 2, 1000, .inr (.inl o_21)))]) [0, 1, 2, 3, 4, 5, 6, 7] (by decide +kernel) rfl
            exact W.lret (v := x_38) hx hb hr (fun tZ ht hW => ⟨⟨x_38, (0, o_17, o_18, o_19, o_20, o_21), rfl, ⟨(show 0 ≤ 0 ∧ 0 ≤ 0 from by omega), (show 0 ≤ o_17.toInt ∧ o_17.toInt ≤ 1023 from by omega), hw_24, hw_25⟩, by rw [ht]; exact hP9, va_K.moved hW.alike hK, hD9⟩, hS.F ht⟩) hS.2.2 dX12_chance_90
        · skip
          have zh_29 : L43l6.toInt ≤ p1.toInt := z_nlt h_29
          refine lv_lload hx hb dX12_chance_49 (lv_at hl 4 rfl) ?_
          refine lv_aload_n hx hb dX12_chance_51 rfl (lv_at hl 0 rfl) ?_
          refine va_get (D := D) (ci := 12) (v := .ref m40) (C := RX12) (T := TX12) (N := 42) hx hb hts iT_X12 hown hK hP 0 rfl rfl 40 (by decide) (hts _ tw_6_93) (fun _ h9 => h9) rfl dX12_chance_52 ?_
          refine lv_iload hx hb dX12_chance_55 (lv_at hl 5 rfl) ?_
          refine va_lald hx hb hK hP 7 2 rfl rfl (z_in (by omega) (by omega)) dX12_chance_57 ?_
          refine lv_topl (fun x_39 ex_39 => ?_)
          refine lv_ladd hx hb dX12_chance_58 ?_
          refine lv_topl (fun x_40 ex_40 => ?_)
          refine lv_lstore (lv' := [(4, .long x_40), (0, .ref mo), (1, .int p0), (2, .int p1), (3, .int p2), (6, .int L43l6)]) hx hb dX12_chance_59 hl (by decide) rfl (fun ls hl => ?_)
          obtain ⟨x_41, ex_41⟩ : ∃ y : Int32, y = L43l6 + 1 := ⟨_, rfl⟩
          have zx_41 : x_41.toInt = L43l6.toInt + 1 := by rw [ex_41]; exact z_add rfl rfl (by omega) (by omega)
          refine lv_iinc (v := x_41) (lv' := [(6, .int x_41), (4, .long x_40), (0, .ref mo), (1, .int p0), (2, .int p1), (3, .int p2)]) hx hb dX12_chance_61 hl (k := 5) rfl (by rw [ex_41]; rfl) (by decide) rfl (fun ls hl => ?_)
          refine lv_goto (tgt := 43) hx hb dX12_chance_64 (by decide) ?_
          exact ih_27 _ _ _ _ (by omega) ⟨x_40, x_41, rfl, (show 0 ≤ x_41.toInt ∧ x_41.toInt ≤ 1000 from by omega), hP.sub (ws' := [(mo, .inr (12, [.int 0, .ref m1, .ref m2, .ref m3, .ref m4, .ref m5, .int v6, .int v7, .int v8, .int v9, .int v10, .long v11, .int v12, .int v13, .int v14, .int v15, .ref m16, .ref m17, .ref m18, .ref m19, .ref m20, .ref m21, .ref m22, .ref m23, .int o_17, .ref m25, .ref m26, .ref m27, .ref m28, .ref m29, .int v30, .ref m31, .ref m32, .ref m33, .int v34, .int v35, .int v36, .ref m37, .ref m38, .ref m39, .ref m40, .long o_18])), (m17, .inl (k 0, 30, .inl f17)), (m18, .inl (k 0, 250, .inl f18)), (m19, .inl (k 0, 40, .inl f19)), (m22, .inl (k 0, 600, .inl f22)), (m25, .inl (k 0, 4, .inl o_19)), (m26, .inl (k 0, 8, .inl o_20)), (m40, .inl (k 2, 1000, .inr (.inl o_21)))]) [0, 1, 2, 3, 4, 5, 6, 7] rfl, hD.sub (ws' := [(mo, .inr (12, [.int 0, .ref m1, .ref m2, .ref m3, .ref m4, .ref m5, .int v6, .int v7, .int v8, .int v9, .int v10, .long v11, .int v12, .int v13, .int v14, .int v15, .ref m16, .ref m17, .ref m18, .ref m19, .ref m20, .ref m21, .ref m22, .ref m23, .int o_17, .ref m25, .ref m26, .ref m27, .ref m28, .ref m29, .int v30, .ref m31, .ref m32, .ref m33, .int v34, .int v35, .int v36, .ref m37, .ref m38, .ref m39, .ref m40, .long o_18])), (m17, .inl (k 0, 30, .inl f17)), (m18, .inl (k 0, 250, .inl f18)), (m19, .inl (k 0, 40, .inl f19)), (m22, .inl (k 0, 600, .inl f22)), (m25, .inl (k 0, 4, .inl o_19)), (m26, .inl (k 0, 8, .inl o_20)), (m40, .inl (k 2, 1000, .inr (.inl o_21)))]) [0, 1, 2, 3, 4, 5, 6, 7] (by decide +kernel) rfl, hS, lv_sub hl [2, 3, 4, 5, 1, 0] rfl⟩
      · skip
        have zh_15 : r_11.toInt = 0 := z_eq h_15
        refine lv_ldc2 (v := (-2)) hx hb hown (hts _ tw_8_186) dX12_chance_28 ?_
        obtain ⟨hP9, hD9⟩ := sub2 hP hD (ws' := [(mo, .inr (12, [.int 0, .ref m1, .ref m2, .ref m3, .ref m4, .ref m5, .int v6, .int v7, .int v8, .int v9, .int v10, .long v11, .int v12, .int v13, .int v14, .int v15, .ref m16, .ref m17, .ref m18, .ref m19, .ref m20, .ref m21, .ref m22, .ref m23, .int v24, .ref m25, .ref m26, .ref m27, .ref m28, .ref m29, .int v30, .ref m31, .ref m32, .ref m33, .int v34, .int v35, .int v36, .ref m37, .ref m38, .ref m39, .ref m40, .long v41])), (m17, .inl (k 0, 30, .inl f17)), (m18, .inl (k 0, 250, .inl f18)), (m19, .inl (k 0, 40, .inl f19)), (m22, .inl (k 0, 600, .inl f22)), (m25, .inl (k 0, 4, .inl f25)), (m26, .inl (k 0, 8, .inl f26)), (m40, .inl (k 2, 1000, .inr (.inl f40)))]) [6, 7, 0, 1, 2, 3, 4, 5] (by decide +kernel) rfl
        exact W.lret (v := (-2)) hx hb hr (fun tZ ht hW => ⟨⟨(-2), (0, v24, v41, f25, f26, f40), rfl, ⟨(show 0 ≤ 0 ∧ 0 ≤ 0 from by omega), (show 0 ≤ v24.toInt ∧ v24.toInt ≤ 1023 from by omega), hp_f25_0, hp_f26_0⟩, by rw [ht]; exact hP9, va_K.moved hW.alike hK, hD9⟩, hS.F ht⟩) hS.2.2 dX12_chance_31
set_option maxHeartbeats 4000000 in
set_option maxRecDepth 100000 in
theorem c_X12_sure (l : Launch) (D : va_G) (k : Nat → ClassId) (mo : Nat) (p0 : Int32) (p1 : Int32) (v0 : Int32) (m1 : Nat) (m2 : Nat) (m3 : Nat) (m4 : Nat) (m5 : Nat) (v6 : Int32) (v7 : Int32) (v8 : Int32) (v9 : Int32) (v10 : Int32) (v11 : Int64) (v12 : Int32) (v13 : Int32) (v14 : Int32) (v15 : Int32) (m16 : Nat) (m17 : Nat) (m18 : Nat) (m19 : Nat) (m20 : Nat) (m21 : Nat) (m22 : Nat) (m23 : Nat) (v24 : Int32) (m25 : Nat) (m26 : Nat) (m27 : Nat) (m28 : Nat) (m29 : Nat) (v30 : Int32) (m31 : Nat) (m32 : Nat) (m33 : Nat) (v34 : Int32) (v35 : Int32) (v36 : Int32) (m37 : Nat) (m38 : Nat) (m39 : Nat) (m40 : Nat) (v41 : Int64) (f17 : Nat → Int32) (f18 : Nat → Int32) (f19 : Nat → Int32) (f22 : Nat → Int32) (f25 : Nat → Int32) (f26 : Nat → Int32) (f40 : Nat → Int64) (sz : Nat) (h_v6 : 0 ≤ v6.toInt ∧ v6.toInt ≤ 1000) (h_v24 : 0 ≤ v24.toInt ∧ v24.toInt ≤ 1023) (hp_f17_0 : PR 30 6 0 0 8 f17) (hp_f17_1 : PR 30 6 1 0 10 f17) (hp_f17_2 : PR 30 6 2 0 4 f17) (hp_f17_3 : PR 30 6 3 0 6 f17) (hp_f17_4 : PR 30 6 4 0 2 f17) (hp_f17_5 : PR 30 6 5 0 40 f17) (hp_f18_0 : PR 250 5 0 0 7 f18) (hp_f18_1 : PR 250 5 1 0 7 f18) (hp_f18_2 : PR 250 5 2 0 60 f18) (hp_f18_3 : PR 250 5 3 0 10 f18) (hp_f19_0 : PR 40 2 0 0 7 f19) (hp_f19_1 : PR 40 2 1 0 99 f19) (hp_f22_0 : PR 600 3 1 0 9 f22) (hp_f22_1 : PR 600 3 2 0 99 f22) (hp_f22_2 : AK f22) (hp_f25_0 : PR 4 1 0 0 99 f25) (hp_f26_0 : PR 8 1 0 0 100000 f26) : Met l yX12_sure (ww yX12_sure cX12_sure 6 (some .int)) ({ frames := 5, cells := 0, slots := 0, locals := 118 }) (Pre0 D k [(mo, .inr (12, [.int v0, .ref m1, .ref m2, .ref m3, .ref m4, .ref m5, .int v6, .int v7, .int v8, .int v9, .int v10, .long v11, .int v12, .int v13, .int v14, .int v15, .ref m16, .ref m17, .ref m18, .ref m19, .ref m20, .ref m21, .ref m22, .ref m23, .int v24, .ref m25, .ref m26, .ref m27, .ref m28, .ref m29, .int v30, .ref m31, .ref m32, .ref m33, .int v34, .int v35, .int v36, .ref m37, .ref m38, .ref m39, .ref m40, .long v41])), (m17, .inl (k 0, 30, .inl f17)), (m18, .inl (k 0, 250, .inl f18)), (m19, .inl (k 0, 40, .inl f19)), (m22, .inl (k 0, 600, .inl f22)), (m25, .inl (k 0, 4, .inl f25)), (m26, .inl (k 0, 8, .inl f26)), (m40, .inl (k 2, 1000, .inr (.inl f40)))] sz [.ref mo, .int p0, .int p1]) (va_Qi (fun (r : Int32) (u : Int32 × Int32 × Int64 × (Nat → Int32) × (Nat → Int32) × (Nat → Int64)) => match u with | (v0z, v24z, v41z, f25z, f26z, f40z) => ((-2) ≤ r.toInt ∧ r.toInt ≤ 999) ∧ (0 ≤ v0z.toInt ∧ v0z.toInt ≤ 0) ∧ (0 ≤ v24z.toInt ∧ v24z.toInt ≤ 1023) ∧ (PR 4 1 0 0 99 f25z) ∧ (PR 8 1 0 0 100000 f26z)) (fun (u : Int32 × Int32 × Int64 × (Nat → Int32) × (Nat → Int32) × (Nat → Int64)) tZ => match u with | (v0z, v24z, v41z, f25z, f26z, f40z) => Bw D k (va_A [(mo, .inr (12, [.int v0, .ref m1, .ref m2, .ref m3, .ref m4, .ref m5, .int v6, .int v7, .int v8, .int v9, .int v10, .long v11, .int v12, .int v13, .int v14, .int v15, .ref m16, .ref m17, .ref m18, .ref m19, .ref m20, .ref m21, .ref m22, .ref m23, .int v24, .ref m25, .ref m26, .ref m27, .ref m28, .ref m29, .int v30, .ref m31, .ref m32, .ref m33, .int v34, .int v35, .int v36, .ref m37, .ref m38, .ref m39, .ref m40, .long v41])), (m17, .inl (k 0, 30, .inl f17)), (m18, .inl (k 0, 250, .inl f18)), (m19, .inl (k 0, 40, .inl f19)), (m22, .inl (k 0, 600, .inl f22)), (m25, .inl (k 0, 4, .inl f25)), (m26, .inl (k 0, 8, .inl f26)), (m40, .inl (k 2, 1000, .inr (.inl f40)))] sz) [(mo, .inr (12, [.int v0z, .ref m1, .ref m2, .ref m3, .ref m4, .ref m5, .int v6, .int v7, .int v8, .int v9, .int v10, .long v11, .int v12, .int v13, .int v14, .int v15, .ref m16, .ref m17, .ref m18, .ref m19, .ref m20, .ref m21, .ref m22, .ref m23, .int v24z, .ref m25, .ref m26, .ref m27, .ref m28, .ref m29, .int v30, .ref m31, .ref m32, .ref m33, .int v34, .int v35, .int v36, .ref m37, .ref m38, .ref m39, .ref m40, .long v41z])), (m17, .inl (k 0, 30, .inl f17)), (m18, .inl (k 0, 250, .inl f18)), (m19, .inl (k 0, 40, .inl f19)), (m22, .inl (k 0, 600, .inl f22)), (m25, .inl (k 0, 4, .inl f25z)), (m26, .inl (k 0, 8, .inl f26z)), (m40, .inl (k 2, 1000, .inr (.inl f40z)))] tZ) (va_A [(mo, .inr (12, [.int v0, .ref m1, .ref m2, .ref m3, .ref m4, .ref m5, .int v6, .int v7, .int v8, .int v9, .int v10, .long v11, .int v12, .int v13, .int v14, .int v15, .ref m16, .ref m17, .ref m18, .ref m19, .ref m20, .ref m21, .ref m22, .ref m23, .int v24, .ref m25, .ref m26, .ref m27, .ref m28, .ref m29, .int v30, .ref m31, .ref m32, .ref m33, .int v34, .int v35, .int v36, .ref m37, .ref m38, .ref m39, .ref m40, .long v41])), (m17, .inl (k 0, 30, .inl f17)), (m18, .inl (k 0, 250, .inl f18)), (m19, .inl (k 0, 40, .inl f19)), (m22, .inl (k 0, 600, .inl f22)), (m25, .inl (k 0, 4, .inl f25)), (m26, .inl (k 0, 8, .inl f26)), (m40, .inl (k 2, 1000, .inr (.inl f40)))] sz)) 0 0 (va_A [(mo, .inr (12, [.int v0, .ref m1, .ref m2, .ref m3, .ref m4, .ref m5, .int v6, .int v7, .int v8, .int v9, .int v10, .long v11, .int v12, .int v13, .int v14, .int v15, .ref m16, .ref m17, .ref m18, .ref m19, .ref m20, .ref m21, .ref m22, .ref m23, .int v24, .ref m25, .ref m26, .ref m27, .ref m28, .ref m29, .int v30, .ref m31, .ref m32, .ref m33, .int v34, .int v35, .int v36, .ref m37, .ref m38, .ref m39, .ref m40, .long v41])), (m17, .inl (k 0, 30, .inl f17)), (m18, .inl (k 0, 250, .inl f18)), (m19, .inl (k 0, 40, .inl f19)), (m22, .inl (k 0, 600, .inl f22)), (m25, .inl (k 0, 4, .inl f25)), (m26, .inl (k 0, 8, .inl f26)), (m40, .inl (k 2, 1000, .inr (.inl f40)))] sz) := by
  refine Met.ofW (cc := cX12_sure) (maxL := 6) (ret := (some .int)) (by decide +kernel) rfl ?_
  intro p e s m args below meth c s₁ B hml hv
  obtain ⟨rfl, hsz, hP, hK, hD0, hN⟩ := hv
  have hx := B.exec
  have hb := B.bytes
  have hr := B.returns
  have hts : ∀ w ∈ TT, w.before _ s = true := fun w h => atoms_spec (ws := ww yX12_sure cX12_sure 6 (some .int)) B.pre w (List.mem_cons_of_mem _ h)
  have hown : s.vm.findClass RX12 = some m.cls := findClass_of_methodNamed B.named
  have hlocks := B.notSynchronized
  subst hsz
  have hD := hD0.self (sz := s.heap.size)
  generalize hAe : va_A [(mo, .inr (12, [.int v0, .ref m1, .ref m2, .ref m3, .ref m4, .ref m5, .int v6, .int v7, .int v8, .int v9, .int v10, .long v11, .int v12, .int v13, .int v14, .int v15, .ref m16, .ref m17, .ref m18, .ref m19, .ref m20, .ref m21, .ref m22, .ref m23, .int v24, .ref m25, .ref m26, .ref m27, .ref m28, .ref m29, .int v30, .ref m31, .ref m32, .ref m33, .int v34, .int v35, .int v36, .ref m37, .ref m38, .ref m39, .ref m40, .long v41])), (m17, .inl (k 0, 30, .inl f17)), (m18, .inl (k 0, 250, .inl f18)), (m19, .inl (k 0, 40, .inl f19)), (m22, .inl (k 0, 600, .inl f22)), (m25, .inl (k 0, 4, .inl f25)), (m26, .inl (k 0, 8, .inl f26)), (m40, .inl (k 2, 1000, .inr (.inl f40)))] s.heap.size = A at hD ⊢
  have hA : ∀ q : Nat, s.heap.size ≤ q → A q := fun q h => by rw [← hAe]; exact Or.inr h
  have hS : va_S A s.heap s.heap [] := va_S.rf
  have hl := lv_entry ([.ref mo, .int p0, .int p1]) (n := 6) (Nat.le_of_ble_eq_true rfl)
  rw [lg_entry_eq]
  generalize (lg_sl ([.ref mo, .int p0, .int p1]) ++ List.replicate (6 - (lg_sl ([.ref mo, .int p0, .int p1])).length) Slot.unset).toArray = ls at hl ⊢
  have hl : lv_has ls 6 [(0, .ref mo), (1, .int p0), (2, .int p1)] := hl
  refine lv_aload_n hx hb dX12_sure_0 rfl (lv_at hl 0 rfl) ?_
  refine lv_iconst (v := 0) hx hb dX12_sure_1 (by decide) ?_
  refine va_put (D := D) (ci := 12) (v := .int 0) (ty := tyX12 0) (C := RX12) (T := TX12) (N := 42) hx hb hts iT_X12 tyX12 tyX12_ok nmX12 hown hK hP hD hS 0 rfl rfl 0 (by decide) (hts _ tw_6_53) (fun _ h9 => h9) rfl (tyX12_ok 0 (by decide)) rfl rfl (Nat.le_of_ble_eq_true rfl) dX12_sure_2 (fun H locs hP hD hS => ?_)
  have hP : va_P D vwCl [(mo, .inr (12, [.int 0, .ref m1, .ref m2, .ref m3, .ref m4, .ref m5, .int v6, .int v7, .int v8, .int v9, .int v10, .long v11, .int v12, .int v13, .int v14, .int v15, .ref m16, .ref m17, .ref m18, .ref m19, .ref m20, .ref m21, .ref m22, .ref m23, .int v24, .ref m25, .ref m26, .ref m27, .ref m28, .ref m29, .int v30, .ref m31, .ref m32, .ref m33, .int v34, .int v35, .int v36, .ref m37, .ref m38, .ref m39, .ref m40, .long v41])), (m17, .inl (k 0, 30, .inl f17)), (m18, .inl (k 0, 250, .inl f18)), (m19, .inl (k 0, 40, .inl f19)), (m22, .inl (k 0, 600, .inl f22)), (m25, .inl (k 0, 4, .inl f25)), (m26, .inl (k 0, 8, .inl f26)), (m40, .inl (k 2, 1000, .inr (.inl f40)))] H := hP
  have hD : va_D A [(mo, .inr (12, [.int 0, .ref m1, .ref m2, .ref m3, .ref m4, .ref m5, .int v6, .int v7, .int v8, .int v9, .int v10, .long v11, .int v12, .int v13, .int v14, .int v15, .ref m16, .ref m17, .ref m18, .ref m19, .ref m20, .ref m21, .ref m22, .ref m23, .int v24, .ref m25, .ref m26, .ref m27, .ref m28, .ref m29, .int v30, .ref m31, .ref m32, .ref m33, .int v34, .int v35, .int v36, .ref m37, .ref m38, .ref m39, .ref m40, .long v41])), (m17, .inl (k 0, 30, .inl f17)), (m18, .inl (k 0, 250, .inl f18)), (m19, .inl (k 0, 40, .inl f19)), (m22, .inl (k 0, 600, .inl f22)), (m25, .inl (k 0, 4, .inl f25)), (m26, .inl (k 0, 8, .inl f26)), (m40, .inl (k 2, 1000, .inr (.inl f40)))] := hD
  refine lv_aload_n hx hb dX12_sure_5 rfl (lv_at hl 0 rfl) ?_
  refine lv_iload_n hx hb dX12_sure_6 rfl (lv_at hl 1 rfl) ?_
  refine lv_i2l (v := p0.toInt64) hx hb dX12_sure_7 rfl ?_
  obtain ⟨hPc, hDc, hFc⟩ := sub3 hP hD hS hA (ws' := [(mo, .inr (12, [.int 0, .ref m1, .ref m2, .ref m3, .ref m4, .ref m5, .int v6, .int v7, .int v8, .int v9, .int v10, .long v11, .int v12, .int v13, .int v14, .int v15, .ref m16, .ref m17, .ref m18, .ref m19, .ref m20, .ref m21, .ref m22, .ref m23, .int v24, .ref m25, .ref m26, .ref m27, .ref m28, .ref m29, .int v30, .ref m31, .ref m32, .ref m33, .int v34, .int v35, .int v36, .ref m37, .ref m38, .ref m39, .ref m40, .long v41])), (m17, .inl (k 0, 30, .inl f17))]) [0, 1] (by decide +kernel) rfl
  refine va_calli (va_runV (C := RX12) (As := [.long p0.toInt64]) (rest := []) ⟨hx, hb, hml, hown, hts⟩ (c_X12_isStreet l D k mo p0.toInt64 0 m1 m2 m3 m4 m5 v6 v7 v8 v9 v10 v11 v12 v13 v14 v15 m16 m17 m18 m19 m20 m21 m22 m23 v24 m25 m26 m27 m28 m29 v30 m31 m32 m33 v34 v35 v36 m37 m38 m39 m40 v41 f17 H.size (show 0 ≤ v6.toInt ∧ v6.toInt ≤ 1000 from by omega) (show 0 ≤ v24.toInt ∧ v24.toInt ≤ 1023 from by omega) hp_f17_0 hp_f17_1 hp_f17_2 hp_f17_3 hp_f17_4 hp_f17_5) (cwV 1 hts (gV tw_7_133 tw_7_135 tw_p_62 tw_1_13 tw_7_136) rfl rfl rfl hdV_X12_isStreet ⟨Nat.le_of_ble_eq_true rfl, Nat.le_of_ble_eq_true rfl⟩) (cz_V hK hPc hDc hN (ci := 12) (q0 := 0) rfl rfl [.long p0.toInt64]) rfl rfl hl.1 rfl (lv_room (Nat.le_of_ble_eq_true rfl)) dX12_sure_8 ⟨Nat.le_of_ble_eq_true rfl, Nat.le_of_ble_eq_true rfl⟩) hS (fun q _ h => hFc q h) hFc (fun r_1 uZ tZ H1 locs ht hvm hw hB hz1 hk1 hS => ?_)
  obtain ⟨hP1, hK1, hD1⟩ := hB
  rw [ht] at hP1
  obtain ⟨hP, hD⟩ := va_join (wr := [(m18, .inl (k 0, 250, .inl f18)), (m19, .inl (k 0, 40, .inl f19)), (m22, .inl (k 0, 600, .inl f22)), (m25, .inl (k 0, 4, .inl f25)), (m26, .inl (k 0, 8, .inl f26)), (m40, .inl (k 2, 1000, .inr (.inl f40)))]) (w1 := [(mo, .inr (12, [.int 0, .ref m1, .ref m2, .ref m3, .ref m4, .ref m5, .int v6, .int v7, .int v8, .int v9, .int v10, .long v11, .int v12, .int v13, .int v14, .int v15, .ref m16, .ref m17, .ref m18, .ref m19, .ref m20, .ref m21, .ref m22, .ref m23, .int v24, .ref m25, .ref m26, .ref m27, .ref m28, .ref m29, .int v30, .ref m31, .ref m32, .ref m33, .int v34, .int v35, .int v36, .ref m37, .ref m38, .ref m39, .ref m40, .long v41])), (m17, .inl (k 0, 30, .inl f17))]) hP hD [0, 1] [2, 3, 4, 5, 6, 7] rfl rfl (by decide +kernel) (by decide +kernel) hk1 hFc hP1 hD1
  clear hK1 hP1 hD1 hPc hDc hFc
  clear hk1 hz1 ht hvm
  have hP : va_P D vwCl [(m18, .inl (k 0, 250, .inl f18)), (m19, .inl (k 0, 40, .inl f19)), (m22, .inl (k 0, 600, .inl f22)), (m25, .inl (k 0, 4, .inl f25)), (m26, .inl (k 0, 8, .inl f26)), (m40, .inl (k 2, 1000, .inr (.inl f40))), (mo, .inr (12, [.int 0, .ref m1, .ref m2, .ref m3, .ref m4, .ref m5, .int v6, .int v7, .int v8, .int v9, .int v10, .long v11, .int v12, .int v13, .int v14, .int v15, .ref m16, .ref m17, .ref m18, .ref m19, .ref m20, .ref m21, .ref m22, .ref m23, .int v24, .ref m25, .ref m26, .ref m27, .ref m28, .ref m29, .int v30, .ref m31, .ref m32, .ref m33, .int v34, .int v35, .int v36, .ref m37, .ref m38, .ref m39, .ref m40, .long v41])), (m17, .inl (k 0, 30, .inl f17))] H1 := hP
  have hD : va_D A [(m18, .inl (k 0, 250, .inl f18)), (m19, .inl (k 0, 40, .inl f19)), (m22, .inl (k 0, 600, .inl f22)), (m25, .inl (k 0, 4, .inl f25)), (m26, .inl (k 0, 8, .inl f26)), (m40, .inl (k 2, 1000, .inr (.inl f40))), (mo, .inr (12, [.int 0, .ref m1, .ref m2, .ref m3, .ref m4, .ref m5, .int v6, .int v7, .int v8, .int v9, .int v10, .long v11, .int v12, .int v13, .int v14, .int v15, .ref m16, .ref m17, .ref m18, .ref m19, .ref m20, .ref m21, .ref m22, .ref m23, .int v24, .ref m25, .ref m26, .ref m27, .ref m28, .ref m29, .int v30, .ref m31, .ref m32, .ref m33, .int v34, .int v35, .int v36, .ref m37, .ref m38, .ref m39, .ref m40, .long v41])), (m17, .inl (k 0, 30, .inl f17))] := hD
  generalize H1 = H at hP hS ⊢
  have hw_2 : (0 ≤ r_1.toInt ∧ r_1.toInt ≤ 1) ∧ ((r_1.toInt = 1 ∧ 0 ≤ p0.toInt64.toInt ∧ p0.toInt64.toInt ≤ 7) ∨ r_1.toInt = 0) := hw
  obtain ⟨hw_3, hw_4⟩ := hw_2
  clear hw
  simp only [Int32.toInt_toInt64] at hw_3 hw_4
  refine lv_if_eq (tgt := 26) hx hb dX12_sure_11 (by decide) (fun h_5 => ?_) (fun h_5 => ?_)
  · skip
    have zh_5 : r_1.toInt = 0 := z_eq h_5
    refine lv_bipush (v := (-2)) hx hb dX12_sure_26 (by decide) ?_
    obtain ⟨hP9, hD9⟩ := sub2 hP hD (ws' := [(mo, .inr (12, [.int 0, .ref m1, .ref m2, .ref m3, .ref m4, .ref m5, .int v6, .int v7, .int v8, .int v9, .int v10, .long v11, .int v12, .int v13, .int v14, .int v15, .ref m16, .ref m17, .ref m18, .ref m19, .ref m20, .ref m21, .ref m22, .ref m23, .int v24, .ref m25, .ref m26, .ref m27, .ref m28, .ref m29, .int v30, .ref m31, .ref m32, .ref m33, .int v34, .int v35, .int v36, .ref m37, .ref m38, .ref m39, .ref m40, .long v41])), (m17, .inl (k 0, 30, .inl f17)), (m18, .inl (k 0, 250, .inl f18)), (m19, .inl (k 0, 40, .inl f19)), (m22, .inl (k 0, 600, .inl f22)), (m25, .inl (k 0, 4, .inl f25)), (m26, .inl (k 0, 8, .inl f26)), (m40, .inl (k 2, 1000, .inr (.inl f40)))]) [6, 7, 0, 1, 2, 3, 4, 5] (by decide +kernel) rfl
    exact W.iret (v := (-2)) hx hb hr (fun tZ ht hW => ⟨⟨(-2), (0, v24, v41, f25, f26, f40), rfl, ⟨(show (-2) ≤ (-2) ∧ (-2) ≤ 999 from by omega), (show 0 ≤ 0 ∧ 0 ≤ 0 from by omega), (show 0 ≤ v24.toInt ∧ v24.toInt ≤ 1023 from by omega), hp_f25_0, hp_f26_0⟩, by rw [ht]; exact hP9, va_K.moved hW.alike hK, hD9⟩, hS.F ht⟩) hS.2.2 dX12_sure_28
  · skip
    have zh_5 : ¬ r_1.toInt = 0 := z_ne h_5
    refine lv_iload_n hx hb dX12_sure_14 rfl (lv_at hl 2 rfl) ?_
    refine lv_i2l (v := p1.toInt64) hx hb dX12_sure_15 rfl ?_
    refine lv_lconst (v := 0) hx hb dX12_sure_16 (by decide) ?_
    refine lv_ldc2 (v := 100) hx hb hown (hts _ tw_8_199) dX12_sure_17 ?_
    obtain ⟨hPc, hDc, hFc⟩ := sub3 hP hD hS hA (ws' := []) [] (by decide +kernel) rfl
    refine va_calli (va_runS (As := [.long p1.toInt64, .long 0, .long 100]) (rest := []) ⟨hx, hb, hml, hown, hts⟩ (c_X12_in l D k p1.toInt64 0 100 H.size) (va_cwS 3 hts (gS tw_6_188 tw_6_189 tw_1_13 tw_6_190) rfl rfl rfl hdS_X12_in ⟨Nat.le_of_ble_eq_true rfl, Nat.le_of_ble_eq_true rfl⟩) (cz_S hK hPc hDc hN [.long p1.toInt64, .long 0, .long 100]) rfl rfl hl.1 rfl (lv_room (Nat.le_of_ble_eq_true rfl)) dX12_sure_20 ⟨Nat.le_of_ble_eq_true rfl, Nat.le_of_ble_eq_true rfl⟩) hS (fun q _ h => hFc q h) hFc (fun r_6 uZ tZ H1 locs ht hvm hw hB hz1 hk1 hS => ?_)
    obtain ⟨hP1, hK1, hD1⟩ := hB
    rw [ht] at hP1
    obtain ⟨hP, hD⟩ := va_join (wr := [(m18, .inl (k 0, 250, .inl f18)), (m19, .inl (k 0, 40, .inl f19)), (m22, .inl (k 0, 600, .inl f22)), (m25, .inl (k 0, 4, .inl f25)), (m26, .inl (k 0, 8, .inl f26)), (m40, .inl (k 2, 1000, .inr (.inl f40))), (mo, .inr (12, [.int 0, .ref m1, .ref m2, .ref m3, .ref m4, .ref m5, .int v6, .int v7, .int v8, .int v9, .int v10, .long v11, .int v12, .int v13, .int v14, .int v15, .ref m16, .ref m17, .ref m18, .ref m19, .ref m20, .ref m21, .ref m22, .ref m23, .int v24, .ref m25, .ref m26, .ref m27, .ref m28, .ref m29, .int v30, .ref m31, .ref m32, .ref m33, .int v34, .int v35, .int v36, .ref m37, .ref m38, .ref m39, .ref m40, .long v41])), (m17, .inl (k 0, 30, .inl f17))]) (w1 := []) hP hD [] [0, 1, 2, 3, 4, 5, 6, 7] rfl rfl (by decide +kernel) (by decide +kernel) hk1 hFc hP1 hD1
    clear hK1 hP1 hD1 hPc hDc hFc
    clear hk1 hz1 ht hvm
    have hP : va_P D vwCl [(m18, .inl (k 0, 250, .inl f18)), (m19, .inl (k 0, 40, .inl f19)), (m22, .inl (k 0, 600, .inl f22)), (m25, .inl (k 0, 4, .inl f25)), (m26, .inl (k 0, 8, .inl f26)), (m40, .inl (k 2, 1000, .inr (.inl f40))), (mo, .inr (12, [.int 0, .ref m1, .ref m2, .ref m3, .ref m4, .ref m5, .int v6, .int v7, .int v8, .int v9, .int v10, .long v11, .int v12, .int v13, .int v14, .int v15, .ref m16, .ref m17, .ref m18, .ref m19, .ref m20, .ref m21, .ref m22, .ref m23, .int v24, .ref m25, .ref m26, .ref m27, .ref m28, .ref m29, .int v30, .ref m31, .ref m32, .ref m33, .int v34, .int v35, .int v36, .ref m37, .ref m38, .ref m39, .ref m40, .long v41])), (m17, .inl (k 0, 30, .inl f17))] H1 := hP
    have hD : va_D A [(m18, .inl (k 0, 250, .inl f18)), (m19, .inl (k 0, 40, .inl f19)), (m22, .inl (k 0, 600, .inl f22)), (m25, .inl (k 0, 4, .inl f25)), (m26, .inl (k 0, 8, .inl f26)), (m40, .inl (k 2, 1000, .inr (.inl f40))), (mo, .inr (12, [.int 0, .ref m1, .ref m2, .ref m3, .ref m4, .ref m5, .int v6, .int v7, .int v8, .int v9, .int v10, .long v11, .int v12, .int v13, .int v14, .int v15, .ref m16, .ref m17, .ref m18, .ref m19, .ref m20, .ref m21, .ref m22, .ref m23, .int v24, .ref m25, .ref m26, .ref m27, .ref m28, .ref m29, .int v30, .ref m31, .ref m32, .ref m33, .int v34, .int v35, .int v36, .ref m37, .ref m38, .ref m39, .ref m40, .long v41])), (m17, .inl (k 0, 30, .inl f17))] := hD
    generalize H1 = H at hP hS ⊢
    have hw_7 : (0 ≤ r_6.toInt ∧ r_6.toInt ≤ 1) ∧ ((r_6.toInt = 1 ∧ 0 ≤ p1.toInt64.toInt ∧ p1.toInt64.toInt ≤ 100) ∨ (r_6.toInt = 0 ∧ (p1.toInt64.toInt < 0 ∨ 100 < p1.toInt64.toInt))) := hw
    obtain ⟨hw_8, hw_9⟩ := hw_7
    clear hw
    simp only [Int32.toInt_toInt64] at hw_8 hw_9
    refine lv_if_ne (tgt := 29) hx hb dX12_sure_23 (by decide) (fun h_10 => ?_) (fun h_10 => ?_)
    · skip
      have zh_10 : ¬ r_6.toInt = 0 := z_ne h_10
      refine lv_aload_n hx hb dX12_sure_29 rfl (lv_at hl 0 rfl) ?_
      refine lv_iload_n hx hb dX12_sure_30 rfl (lv_at hl 1 rfl) ?_
      obtain ⟨hPc, hDc, hFc⟩ := sub3 hP hD hS hA (ws' := [(mo, .inr (12, [.int 0, .ref m1, .ref m2, .ref m3, .ref m4, .ref m5, .int v6, .int v7, .int v8, .int v9, .int v10, .long v11, .int v12, .int v13, .int v14, .int v15, .ref m16, .ref m17, .ref m18, .ref m19, .ref m20, .ref m21, .ref m22, .ref m23, .int v24, .ref m25, .ref m26, .ref m27, .ref m28, .ref m29, .int v30, .ref m31, .ref m32, .ref m33, .int v34, .int v35, .int v36, .ref m37, .ref m38, .ref m39, .ref m40, .long v41])), (m17, .inl (k 0, 30, .inl f17)), (m18, .inl (k 0, 250, .inl f18)), (m19, .inl (k 0, 40, .inl f19)), (m22, .inl (k 0, 600, .inl f22)), (m25, .inl (k 0, 4, .inl f25)), (m26, .inl (k 0, 8, .inl f26)), (m40, .inl (k 2, 1000, .inr (.inl f40)))]) [6, 7, 0, 1, 2, 3, 4, 5] (by decide +kernel) rfl
      refine va_callv (va_runV (C := RX12) (As := [.int p0]) (rest := []) ⟨hx, hb, hml, hown, hts⟩ (c_X12_laysChance l D k mo p0 0 m1 m2 m3 m4 m5 v6 v7 v8 v9 v10 v11 v12 v13 v14 v15 m16 m17 m18 m19 m20 m21 m22 m23 v24 m25 m26 m27 m28 m29 v30 m31 m32 m33 v34 v35 v36 m37 m38 m39 m40 v41 f17 f18 f19 f22 f25 f26 f40 H.size (show 0 ≤ p0.toInt ∧ p0.toInt ≤ 7 from by omega) (show 0 ≤ v6.toInt ∧ v6.toInt ≤ 1000 from by omega) (show 0 ≤ v24.toInt ∧ v24.toInt ≤ 1023 from by omega) hp_f17_0 hp_f17_1 hp_f17_2 hp_f17_3 hp_f17_4 hp_f17_5 hp_f18_0 hp_f18_1 hp_f18_2 hp_f18_3 hp_f19_0 hp_f19_1 hp_f22_0 hp_f22_1 hp_f22_2 hp_f25_0 hp_f26_0) (cwV 1 hts (gV tw_8_187 tw_8_189 tw_p_94 tw_1_13 tw_8_190) rfl rfl rfl hdV_X12_laysChance ⟨Nat.le_of_ble_eq_true rfl, Nat.le_of_ble_eq_true rfl⟩) (cz_V hK hPc hDc hN (ci := 12) (q0 := 0) rfl rfl [.int p0]) rfl rfl hl.1 rfl (lv_room (Nat.le_of_ble_eq_true rfl)) dX12_sure_31 ⟨Nat.le_of_ble_eq_true rfl, Nat.le_of_ble_eq_true rfl⟩) hS (fun q _ h => hFc q h) hFc (fun uZ tZ H1 locs ht hvm hw hB hz1 hk1 hS => ?_)
      obtain ⟨o_12, o_13, o_14, o_15, o_16⟩ := uZ
      obtain ⟨hP1, hK1, hD1⟩ := hB
      rw [ht] at hP1
      obtain ⟨hP, hD⟩ := va_join (wr := []) (w1 := [(mo, .inr (12, [.int 0, .ref m1, .ref m2, .ref m3, .ref m4, .ref m5, .int v6, .int v7, .int v8, .int v9, .int v10, .long v11, .int v12, .int v13, .int v14, .int v15, .ref m16, .ref m17, .ref m18, .ref m19, .ref m20, .ref m21, .ref m22, .ref m23, .int o_12, .ref m25, .ref m26, .ref m27, .ref m28, .ref m29, .int v30, .ref m31, .ref m32, .ref m33, .int v34, .int v35, .int v36, .ref m37, .ref m38, .ref m39, .ref m40, .long o_13])), (m17, .inl (k 0, 30, .inl f17)), (m18, .inl (k 0, 250, .inl f18)), (m19, .inl (k 0, 40, .inl f19)), (m22, .inl (k 0, 600, .inl f22)), (m25, .inl (k 0, 4, .inl o_14)), (m26, .inl (k 0, 8, .inl o_15)), (m40, .inl (k 2, 1000, .inr (.inl o_16)))]) hP hD [6, 7, 0, 1, 2, 3, 4, 5] [] rfl rfl (by decide +kernel) (by decide +kernel) hk1 hFc hP1 hD1
      clear hK1 hP1 hD1 hPc hDc hFc
      clear hk1 hz1 ht hvm
      have hP : va_P D vwCl [(mo, .inr (12, [.int 0, .ref m1, .ref m2, .ref m3, .ref m4, .ref m5, .int v6, .int v7, .int v8, .int v9, .int v10, .long v11, .int v12, .int v13, .int v14, .int v15, .ref m16, .ref m17, .ref m18, .ref m19, .ref m20, .ref m21, .ref m22, .ref m23, .int o_12, .ref m25, .ref m26, .ref m27, .ref m28, .ref m29, .int v30, .ref m31, .ref m32, .ref m33, .int v34, .int v35, .int v36, .ref m37, .ref m38, .ref m39, .ref m40, .long o_13])), (m17, .inl (k 0, 30, .inl f17)), (m18, .inl (k 0, 250, .inl f18)), (m19, .inl (k 0, 40, .inl f19)), (m22, .inl (k 0, 600, .inl f22)), (m25, .inl (k 0, 4, .inl o_14)), (m26, .inl (k 0, 8, .inl o_15)), (m40, .inl (k 2, 1000, .inr (.inl o_16)))] H1 := hP
      have hD : va_D A [(mo, .inr (12, [.int 0, .ref m1, .ref m2, .ref m3, .ref m4, .ref m5, .int v6, .int v7, .int v8, .int v9, .int v10, .long v11, .int v12, .int v13, .int v14, .int v15, .ref m16, .ref m17, .ref m18, .ref m19, .ref m20, .ref m21, .ref m22, .ref m23, .int o_12, .ref m25, .ref m26, .ref m27, .ref m28, .ref m29, .int v30, .ref m31, .ref m32, .ref m33, .int v34, .int v35, .int v36, .ref m37, .ref m38, .ref m39, .ref m40, .long o_13])), (m17, .inl (k 0, 30, .inl f17)), (m18, .inl (k 0, 250, .inl f18)), (m19, .inl (k 0, 40, .inl f19)), (m22, .inl (k 0, 600, .inl f22)), (m25, .inl (k 0, 4, .inl o_14)), (m26, .inl (k 0, 8, .inl o_15)), (m40, .inl (k 2, 1000, .inr (.inl o_16)))] := hD
      generalize H1 = H at hP hS ⊢
      have hw_17 : (0 ≤ o_12.toInt ∧ o_12.toInt ≤ 1023) ∧ (PR 4 1 0 0 99 o_14) ∧ (PR 8 1 0 0 100000 o_15) ∧ (1 ≤ o_13.toInt ∧ o_13.toInt ≤ 10000000000) := hw
      obtain ⟨hw_18, hw_19, hw_20, hw_21⟩ := hw_17
      clear hw
      refine lv_lconst (v := 0) hx hb dX12_sure_34 (by decide) ?_
      refine lv_lstore_n (lv' := [(3, .long 0), (0, .ref mo), (1, .int p0), (2, .int p1)]) hx hb dX12_sure_35 rfl hl (by decide) rfl (fun ls hl => ?_)
      refine lv_iconst (v := 0) hx hb dX12_sure_36 (by decide) ?_
      refine lv_istore (lv' := [(5, .int 0), (3, .long 0), (0, .ref mo), (1, .int p0), (2, .int p1)]) hx hb dX12_sure_37 hl (by decide) rfl (fun ls hl => ?_)
      refine loop_r (Wg := fun H locs ls => W p l e _ s m _ below meth c H locs _ _ _ (F0 m 39 ls [])) (fun n9 H locs ls => ∃ (L39l3 : Int64) (L39l5 : Int32), n9 = (1000 - L39l5.toInt).toNat ∧ (0 ≤ L39l5.toInt ∧ L39l5.toInt ≤ 1000) ∧ va_P D vwCl [(mo, .inr (12, [.int 0, .ref m1, .ref m2, .ref m3, .ref m4, .ref m5, .int v6, .int v7, .int v8, .int v9, .int v10, .long v11, .int v12, .int v13, .int v14, .int v15, .ref m16, .ref m17, .ref m18, .ref m19, .ref m20, .ref m21, .ref m22, .ref m23, .int o_12, .ref m25, .ref m26, .ref m27, .ref m28, .ref m29, .int v30, .ref m31, .ref m32, .ref m33, .int v34, .int v35, .int v36, .ref m37, .ref m38, .ref m39, .ref m40, .long o_13])), (m17, .inl (k 0, 30, .inl f17)), (m18, .inl (k 0, 250, .inl f18)), (m19, .inl (k 0, 40, .inl f19)), (m22, .inl (k 0, 600, .inl f22)), (m25, .inl (k 0, 4, .inl o_14)), (m26, .inl (k 0, 8, .inl o_15)), (m40, .inl (k 2, 1000, .inr (.inl o_16)))] H ∧ va_D A [(mo, .inr (12, [.int 0, .ref m1, .ref m2, .ref m3, .ref m4, .ref m5, .int v6, .int v7, .int v8, .int v9, .int v10, .long v11, .int v12, .int v13, .int v14, .int v15, .ref m16, .ref m17, .ref m18, .ref m19, .ref m20, .ref m21, .ref m22, .ref m23, .int o_12, .ref m25, .ref m26, .ref m27, .ref m28, .ref m29, .int v30, .ref m31, .ref m32, .ref m33, .int v34, .int v35, .int v36, .ref m37, .ref m38, .ref m39, .ref m40, .long o_13])), (m17, .inl (k 0, 30, .inl f17)), (m18, .inl (k 0, 250, .inl f18)), (m19, .inl (k 0, 40, .inl f19)), (m22, .inl (k 0, 600, .inl f22)), (m25, .inl (k 0, 4, .inl o_14)), (m26, .inl (k 0, 8, .inl o_15)), (m40, .inl (k 2, 1000, .inr (.inl o_16)))] ∧ va_S A s.heap H locs ∧ lv_has ls 6 [(0, .ref mo), (1, .int p0), (2, .int p1), (3, .long L39l3), (5, .int L39l5)]) (fun n9 H locs ls hI ih_22 => ?_) _ _ _ _ ⟨0, 0, rfl, (show 0 ≤ 0 ∧ 0 ≤ 1000 from by omega), hP.sub (ws' := [(mo, .inr (12, [.int 0, .ref m1, .ref m2, .ref m3, .ref m4, .ref m5, .int v6, .int v7, .int v8, .int v9, .int v10, .long v11, .int v12, .int v13, .int v14, .int v15, .ref m16, .ref m17, .ref m18, .ref m19, .ref m20, .ref m21, .ref m22, .ref m23, .int o_12, .ref m25, .ref m26, .ref m27, .ref m28, .ref m29, .int v30, .ref m31, .ref m32, .ref m33, .int v34, .int v35, .int v36, .ref m37, .ref m38, .ref m39, .ref m40, .long o_13])), (m17, .inl (k 0, 30, .inl f17)), (m18, .inl (k 0, 250, .inl f18)), (m19, .inl (k 0, 40, .inl f19)), (m22, .inl (k 0, 600, .inl f22)), (m25, .inl (k 0, 4, .inl o_14)), (m26, .inl (k 0, 8, .inl o_15)), (m40, .inl (k 2, 1000, .inr (.inl o_16)))]) [0, 1, 2, 3, 4, 5, 6, 7] rfl, hD.sub (ws' := [(mo, .inr (12, [.int 0, .ref m1, .ref m2, .ref m3, .ref m4, .ref m5, .int v6, .int v7, .int v8, .int v9, .int v10, .long v11, .int v12, .int v13, .int v14, .int v15, .ref m16, .ref m17, .ref m18, .ref m19, .ref m20, .ref m21, .ref m22, .ref m23, .int o_12, .ref m25, .ref m26, .ref m27, .ref m28, .ref m29, .int v30, .ref m31, .ref m32, .ref m33, .int v34, .int v35, .int v36, .ref m37, .ref m38, .ref m39, .ref m40, .long o_13])), (m17, .inl (k 0, 30, .inl f17)), (m18, .inl (k 0, 250, .inl f18)), (m19, .inl (k 0, 40, .inl f19)), (m22, .inl (k 0, 600, .inl f22)), (m25, .inl (k 0, 4, .inl o_14)), (m26, .inl (k 0, 8, .inl o_15)), (m40, .inl (k 2, 1000, .inr (.inl o_16)))]) [0, 1, 2, 3, 4, 5, 6, 7] (by decide +kernel) rfl, hS, lv_sub hl [2, 3, 4, 1, 0] rfl⟩
      clear hP hD hS hl
      obtain ⟨L39l3, L39l5, en_23, zL39l5, hP, hD, hS, hl⟩ := hI
      refine lv_iload hx hb dX12_sure_39 (lv_at hl 4 rfl) ?_
      refine lv_sipush (v := 999) hx hb dX12_sure_41 (by decide) ?_
      refine lv_icmp_gt (tgt := 82) hx hb dX12_sure_44 (by decide) (fun h_24 => ?_) (fun h_24 => ?_)
      · skip
        have zh_24 : 999 < L39l5.toInt := z_lt h_24
        refine lv_iconst (v := (-1)) hx hb dX12_sure_82 (by decide) ?_
        obtain ⟨hP9, hD9⟩ := sub2 hP hD (ws' := [(mo, .inr (12, [.int 0, .ref m1, .ref m2, .ref m3, .ref m4, .ref m5, .int v6, .int v7, .int v8, .int v9, .int v10, .long v11, .int v12, .int v13, .int v14, .int v15, .ref m16, .ref m17, .ref m18, .ref m19, .ref m20, .ref m21, .ref m22, .ref m23, .int o_12, .ref m25, .ref m26, .ref m27, .ref m28, .ref m29, .int v30, .ref m31, .ref m32, .ref m33, .int v34, .int v35, .int v36, .ref m37, .ref m38, .ref m39, .ref m40, .long o_13])), (m17, .inl (k 0, 30, .inl f17)), (m18, .inl (k 0, 250, .inl f18)), (m19, .inl (k 0, 40, .inl f19)), (m22, .inl (k 0, 600, .inl f22)), (m25, .inl (k 0, 4, .inl o_14)), (m26, .inl (k 0, 8, .inl o_15)), (m40, .inl (k 2, 1000, .inr (.inl o_16)))]) [0, 1, 2, 3, 4, 5, 6, 7] (by decide +kernel) rfl
        exact W.iret (v := (-1)) hx hb hr (fun tZ ht hW => ⟨⟨(-1), (0, o_12, o_13, o_14, o_15, o_16), rfl, ⟨(show (-2) ≤ (-1) ∧ (-1) ≤ 999 from by omega), (show 0 ≤ 0 ∧ 0 ≤ 0 from by omega), (show 0 ≤ o_12.toInt ∧ o_12.toInt ≤ 1023 from by omega), hw_19, hw_20⟩, by rw [ht]; exact hP9, va_K.moved hW.alike hK, hD9⟩, hS.F ht⟩) hS.2.2 dX12_sure_83
      · skip
        have zh_24 : L39l5.toInt ≤ 999 := z_nlt h_24
        refine lv_lload_n hx hb dX12_sure_47 rfl (lv_at hl 3 rfl) ?_
        refine lv_aload_n hx hb dX12_sure_48 rfl (lv_at hl 0 rfl) ?_
        refine va_get (D := D) (ci := 12) (v := .ref m40) (C := RX12) (T := TX12) (N := 42) hx hb hts iT_X12 hown hK hP 0 rfl rfl 40 (by decide) (hts _ tw_6_93) (fun _ h9 => h9) rfl dX12_sure_49 ?_
        refine lv_iload hx hb dX12_sure_52 (lv_at hl 4 rfl) ?_
        refine va_lald hx hb hK hP 7 2 rfl rfl (z_in (by omega) (by omega)) dX12_sure_54 ?_
        refine lv_topl (fun x_25 ex_25 => ?_)
        refine lv_ladd hx hb dX12_sure_55 ?_
        refine lv_topl (fun x_26 ex_26 => ?_)
        refine lv_lstore_n (lv' := [(3, .long x_26), (0, .ref mo), (1, .int p0), (2, .int p1), (5, .int L39l5)]) hx hb dX12_sure_56 rfl hl (by decide) rfl (fun ls hl => ?_)
        refine lv_ldc2 (v := 100) hx hb hown (hts _ tw_8_199) dX12_sure_57 ?_
        refine lv_lload_n hx hb dX12_sure_60 rfl (lv_at hl 0 rfl) ?_
        refine lv_lmul hx hb dX12_sure_61 ?_
        refine lv_topl (fun x_27 ex_27 => ?_)
        refine lv_iload_n hx hb dX12_sure_62 rfl (lv_at hl 3 rfl) ?_
        refine lv_i2l (v := p1.toInt64) hx hb dX12_sure_63 rfl ?_
        refine lv_aload_n hx hb dX12_sure_64 rfl (lv_at hl 1 rfl) ?_
        refine va_get (D := D) (ci := 12) (v := .long o_13) (C := RX12) (T := TX12) (N := 42) hx hb hts iT_X12 hown hK hP 0 rfl rfl 41 (by decide) (hts _ tw_6_94) (fun _ h9 => h9) rfl dX12_sure_65 ?_
        refine lv_lmul hx hb dX12_sure_68 ?_
        refine lv_topl (fun x_28 ex_28 => ?_)
        refine W.lcmp hx hb dX12_sure_69 ?_
        refine lv_if_lt (tgt := 76) hx hb dX12_sure_70 (by decide) (fun h_29 => ?_) (fun h_29 => ?_)
        · skip
          have zh_29 : x_27.toInt < x_28.toInt := zL_lt h_29 rfl rfl
          obtain ⟨x_30, ex_30⟩ : ∃ y : Int32, y = L39l5 + 1 := ⟨_, rfl⟩
          have zx_30 : x_30.toInt = L39l5.toInt + 1 := by rw [ex_30]; exact z_add rfl rfl (by omega) (by omega)
          refine lv_iinc (v := x_30) (lv' := [(5, .int x_30), (3, .long x_26), (0, .ref mo), (1, .int p0), (2, .int p1)]) hx hb dX12_sure_76 hl (k := 4) rfl (by rw [ex_30]; rfl) (by decide) rfl (fun ls hl => ?_)
          refine lv_goto (tgt := 39) hx hb dX12_sure_79 (by decide) ?_
          exact ih_22 _ _ _ _ (by omega) ⟨x_26, x_30, rfl, (show 0 ≤ x_30.toInt ∧ x_30.toInt ≤ 1000 from by omega), hP.sub (ws' := [(mo, .inr (12, [.int 0, .ref m1, .ref m2, .ref m3, .ref m4, .ref m5, .int v6, .int v7, .int v8, .int v9, .int v10, .long v11, .int v12, .int v13, .int v14, .int v15, .ref m16, .ref m17, .ref m18, .ref m19, .ref m20, .ref m21, .ref m22, .ref m23, .int o_12, .ref m25, .ref m26, .ref m27, .ref m28, .ref m29, .int v30, .ref m31, .ref m32, .ref m33, .int v34, .int v35, .int v36, .ref m37, .ref m38, .ref m39, .ref m40, .long o_13])), (m17, .inl (k 0, 30, .inl f17)), (m18, .inl (k 0, 250, .inl f18)), (m19, .inl (k 0, 40, .inl f19)), (m22, .inl (k 0, 600, .inl f22)), (m25, .inl (k 0, 4, .inl o_14)), (m26, .inl (k 0, 8, .inl o_15)), (m40, .inl (k 2, 1000, .inr (.inl o_16)))]) [0, 1, 2, 3, 4, 5, 6, 7] rfl, hD.sub (ws' := [(mo, .inr (12, [.int 0, .ref m1, .ref m2, .ref m3, .ref m4, .ref m5, .int v6, .int v7, .int v8, .int v9, .int v10, .long v11, .int v12, .int v13, .int v14, .int v15, .ref m16, .ref m17, .ref m18, .ref m19, .ref m20, .ref m21, .ref m22, .ref m23, .int o_12, .ref m25, .ref m26, .ref m27, .ref m28, .ref m29, .int v30, .ref m31, .ref m32, .ref m33, .int v34, .int v35, .int v36, .ref m37, .ref m38, .ref m39, .ref m40, .long o_13])), (m17, .inl (k 0, 30, .inl f17)), (m18, .inl (k 0, 250, .inl f18)), (m19, .inl (k 0, 40, .inl f19)), (m22, .inl (k 0, 600, .inl f22)), (m25, .inl (k 0, 4, .inl o_14)), (m26, .inl (k 0, 8, .inl o_15)), (m40, .inl (k 2, 1000, .inr (.inl o_16)))]) [0, 1, 2, 3, 4, 5, 6, 7] (by decide +kernel) rfl, hS, lv_sub hl [2, 3, 4, 1, 0] rfl⟩
        · skip
          have zh_29 : x_28.toInt ≤ x_27.toInt := zL_nlt h_29 rfl rfl
          refine lv_iload hx hb dX12_sure_73 (lv_at hl 4 rfl) ?_
          obtain ⟨hP9, hD9⟩ := sub2 hP hD (ws' := [(mo, .inr (12, [.int 0, .ref m1, .ref m2, .ref m3, .ref m4, .ref m5, .int v6, .int v7, .int v8, .int v9, .int v10, .long v11, .int v12, .int v13, .int v14, .int v15, .ref m16, .ref m17, .ref m18, .ref m19, .ref m20, .ref m21, .ref m22, .ref m23, .int o_12, .ref m25, .ref m26, .ref m27, .ref m28, .ref m29, .int v30, .ref m31, .ref m32, .ref m33, .int v34, .int v35, .int v36, .ref m37, .ref m38, .ref m39, .ref m40, .long o_13])), (m17, .inl (k 0, 30, .inl f17)), (m18, .inl (k 0, 250, .inl f18)), (m19, .inl (k 0, 40, .inl f19)), (m22, .inl (k 0, 600, .inl f22)), (m25, .inl (k 0, 4, .inl o_14)), (m26, .inl (k 0, 8, .inl o_15)), (m40, .inl (k 2, 1000, .inr (.inl o_16)))]) [0, 1, 2, 3, 4, 5, 6, 7] (by decide +kernel) rfl
          exact W.iret (v := L39l5) hx hb hr (fun tZ ht hW => ⟨⟨L39l5, (0, o_12, o_13, o_14, o_15, o_16), rfl, ⟨(show (-2) ≤ L39l5.toInt ∧ L39l5.toInt ≤ 999 from by omega), (show 0 ≤ 0 ∧ 0 ≤ 0 from by omega), (show 0 ≤ o_12.toInt ∧ o_12.toInt ≤ 1023 from by omega), hw_19, hw_20⟩, by rw [ht]; exact hP9, va_K.moved hW.alike hK, hD9⟩, hS.F ht⟩) hS.2.2 dX12_sure_75
    · skip
      have zh_10 : r_6.toInt = 0 := z_eq h_10
      refine lv_bipush (v := (-2)) hx hb dX12_sure_26 (by decide) ?_
      obtain ⟨hP9, hD9⟩ := sub2 hP hD (ws' := [(mo, .inr (12, [.int 0, .ref m1, .ref m2, .ref m3, .ref m4, .ref m5, .int v6, .int v7, .int v8, .int v9, .int v10, .long v11, .int v12, .int v13, .int v14, .int v15, .ref m16, .ref m17, .ref m18, .ref m19, .ref m20, .ref m21, .ref m22, .ref m23, .int v24, .ref m25, .ref m26, .ref m27, .ref m28, .ref m29, .int v30, .ref m31, .ref m32, .ref m33, .int v34, .int v35, .int v36, .ref m37, .ref m38, .ref m39, .ref m40, .long v41])), (m17, .inl (k 0, 30, .inl f17)), (m18, .inl (k 0, 250, .inl f18)), (m19, .inl (k 0, 40, .inl f19)), (m22, .inl (k 0, 600, .inl f22)), (m25, .inl (k 0, 4, .inl f25)), (m26, .inl (k 0, 8, .inl f26)), (m40, .inl (k 2, 1000, .inr (.inl f40)))]) [6, 7, 0, 1, 2, 3, 4, 5] (by decide +kernel) rfl
      exact W.iret (v := (-2)) hx hb hr (fun tZ ht hW => ⟨⟨(-2), (0, v24, v41, f25, f26, f40), rfl, ⟨(show (-2) ≤ (-2) ∧ (-2) ≤ 999 from by omega), (show 0 ≤ 0 ∧ 0 ≤ 0 from by omega), (show 0 ≤ v24.toInt ∧ v24.toInt ≤ 1023 from by omega), hp_f25_0, hp_f26_0⟩, by rw [ht]; exact hP9, va_K.moved hW.alike hK, hD9⟩, hS.F ht⟩) hS.2.2 dX12_sure_28
set_option maxHeartbeats 4000000 in
set_option maxRecDepth 100000 in
theorem c_X12_isFull (l : Launch) (D : va_G) (k : Nat → ClassId) (mo : Nat) (v0 : Int32) (m1 : Nat) (m2 : Nat) (m3 : Nat) (m4 : Nat) (m5 : Nat) (v6 : Int32) (v7 : Int32) (v8 : Int32) (v9 : Int32) (v10 : Int32) (v11 : Int64) (v12 : Int32) (v13 : Int32) (v14 : Int32) (v15 : Int32) (m16 : Nat) (m17 : Nat) (m18 : Nat) (m19 : Nat) (m20 : Nat) (m21 : Nat) (m22 : Nat) (m23 : Nat) (v24 : Int32) (m25 : Nat) (m26 : Nat) (m27 : Nat) (m28 : Nat) (m29 : Nat) (v30 : Int32) (m31 : Nat) (m32 : Nat) (m33 : Nat) (v34 : Int32) (v35 : Int32) (v36 : Int32) (m37 : Nat) (m38 : Nat) (m39 : Nat) (m40 : Nat) (v41 : Int64) (f17 : Nat → Int32) (sz : Nat) (h_v6 : 0 ≤ v6.toInt ∧ v6.toInt ≤ 1000) (h_v24 : 0 ≤ v24.toInt ∧ v24.toInt ≤ 1023) (hp_f17_0 : PR 30 6 0 0 8 f17) (hp_f17_1 : PR 30 6 1 0 10 f17) (hp_f17_2 : PR 30 6 2 0 4 f17) (hp_f17_3 : PR 30 6 3 0 6 f17) (hp_f17_4 : PR 30 6 4 0 2 f17) (hp_f17_5 : PR 30 6 5 0 40 f17) : Met l yX12_isFull (ww yX12_isFull cX12_isFull 1 (some .boolean)) ({ frames := 0, cells := 0, slots := 0, locals := 0 }) (Pre0 D k [(mo, .inr (12, [.int v0, .ref m1, .ref m2, .ref m3, .ref m4, .ref m5, .int v6, .int v7, .int v8, .int v9, .int v10, .long v11, .int v12, .int v13, .int v14, .int v15, .ref m16, .ref m17, .ref m18, .ref m19, .ref m20, .ref m21, .ref m22, .ref m23, .int v24, .ref m25, .ref m26, .ref m27, .ref m28, .ref m29, .int v30, .ref m31, .ref m32, .ref m33, .int v34, .int v35, .int v36, .ref m37, .ref m38, .ref m39, .ref m40, .long v41])), (m17, .inl (k 0, 30, .inl f17))] sz [.ref mo]) (va_Qi (fun (r : Int32) (_ : Unit) => (0 ≤ r.toInt ∧ r.toInt ≤ 1) ∧ (r.toInt = 1 ∨ (f17 5).toInt ≤ 39)) (fun (_ : Unit) tZ => Bw D k (va_A [(mo, .inr (12, [.int v0, .ref m1, .ref m2, .ref m3, .ref m4, .ref m5, .int v6, .int v7, .int v8, .int v9, .int v10, .long v11, .int v12, .int v13, .int v14, .int v15, .ref m16, .ref m17, .ref m18, .ref m19, .ref m20, .ref m21, .ref m22, .ref m23, .int v24, .ref m25, .ref m26, .ref m27, .ref m28, .ref m29, .int v30, .ref m31, .ref m32, .ref m33, .int v34, .int v35, .int v36, .ref m37, .ref m38, .ref m39, .ref m40, .long v41])), (m17, .inl (k 0, 30, .inl f17))] sz) [(mo, .inr (12, [.int v0, .ref m1, .ref m2, .ref m3, .ref m4, .ref m5, .int v6, .int v7, .int v8, .int v9, .int v10, .long v11, .int v12, .int v13, .int v14, .int v15, .ref m16, .ref m17, .ref m18, .ref m19, .ref m20, .ref m21, .ref m22, .ref m23, .int v24, .ref m25, .ref m26, .ref m27, .ref m28, .ref m29, .int v30, .ref m31, .ref m32, .ref m33, .int v34, .int v35, .int v36, .ref m37, .ref m38, .ref m39, .ref m40, .long v41])), (m17, .inl (k 0, 30, .inl f17))] tZ) (va_A [(mo, .inr (12, [.int v0, .ref m1, .ref m2, .ref m3, .ref m4, .ref m5, .int v6, .int v7, .int v8, .int v9, .int v10, .long v11, .int v12, .int v13, .int v14, .int v15, .ref m16, .ref m17, .ref m18, .ref m19, .ref m20, .ref m21, .ref m22, .ref m23, .int v24, .ref m25, .ref m26, .ref m27, .ref m28, .ref m29, .int v30, .ref m31, .ref m32, .ref m33, .int v34, .int v35, .int v36, .ref m37, .ref m38, .ref m39, .ref m40, .long v41])), (m17, .inl (k 0, 30, .inl f17))] sz)) 0 0 (va_A [(mo, .inr (12, [.int v0, .ref m1, .ref m2, .ref m3, .ref m4, .ref m5, .int v6, .int v7, .int v8, .int v9, .int v10, .long v11, .int v12, .int v13, .int v14, .int v15, .ref m16, .ref m17, .ref m18, .ref m19, .ref m20, .ref m21, .ref m22, .ref m23, .int v24, .ref m25, .ref m26, .ref m27, .ref m28, .ref m29, .int v30, .ref m31, .ref m32, .ref m33, .int v34, .int v35, .int v36, .ref m37, .ref m38, .ref m39, .ref m40, .long v41])), (m17, .inl (k 0, 30, .inl f17))] sz) := by
  refine Met.ofW (cc := cX12_isFull) (maxL := 1) (ret := (some .boolean)) (by decide +kernel) rfl ?_
  intro p e s m args below meth c s₁ B hml hv
  obtain ⟨rfl, hsz, hP, hK, hD0, hN⟩ := hv
  have hx := B.exec
  have hb := B.bytes
  have hr := B.returns
  have hts : ∀ w ∈ TT, w.before _ s = true := fun w h => atoms_spec (ws := ww yX12_isFull cX12_isFull 1 (some .boolean)) B.pre w (List.mem_cons_of_mem _ h)
  have hown : s.vm.findClass RX12 = some m.cls := findClass_of_methodNamed B.named
  have hlocks := B.notSynchronized
  subst hsz
  have hD := hD0.self (sz := s.heap.size)
  generalize hAe : va_A [(mo, .inr (12, [.int v0, .ref m1, .ref m2, .ref m3, .ref m4, .ref m5, .int v6, .int v7, .int v8, .int v9, .int v10, .long v11, .int v12, .int v13, .int v14, .int v15, .ref m16, .ref m17, .ref m18, .ref m19, .ref m20, .ref m21, .ref m22, .ref m23, .int v24, .ref m25, .ref m26, .ref m27, .ref m28, .ref m29, .int v30, .ref m31, .ref m32, .ref m33, .int v34, .int v35, .int v36, .ref m37, .ref m38, .ref m39, .ref m40, .long v41])), (m17, .inl (k 0, 30, .inl f17))] s.heap.size = A at hD ⊢
  have hA : ∀ q : Nat, s.heap.size ≤ q → A q := fun q h => by rw [← hAe]; exact Or.inr h
  have hS : va_S A s.heap s.heap [] := va_S.rf
  have hl := lv_entry ([.ref mo]) (n := 1) (Nat.le_of_ble_eq_true rfl)
  rw [lg_entry_eq]
  generalize (lg_sl ([.ref mo]) ++ List.replicate (1 - (lg_sl ([.ref mo])).length) Slot.unset).toArray = ls at hl ⊢
  have hl : lv_has ls 1 [(0, .ref mo)] := hl
  refine lv_aload_n hx hb dX12_isFull_0 rfl (lv_at hl 0 rfl) ?_
  refine va_get (D := D) (ci := 12) (v := .ref m17) (C := RX12) (T := TX12) (N := 42) hx hb hts iT_X12 hown hK hP 0 rfl rfl 17 (by decide) (hts _ tw_6_70) (fun _ h9 => h9) rfl dX12_isFull_1 ?_
  refine lv_iconst (v := 5) hx hb dX12_isFull_4 (by decide) ?_
  refine va_iald hx hb hK hP 1 0 rfl rfl (z_in (by decide) (by decide)) dX12_isFull_5 ?_
  refine lv_topi (fun x_1 ex_1 => ?_)
  have zx_1r5 : 0 ≤ x_1.toInt ∧ x_1.toInt ≤ 40 := by rw [ex_1]; exact PR.ld hp_f17_5 (by decide) (by decide) (by decide)
  refine lv_bipush (v := 40) hx hb dX12_isFull_6 (by decide) ?_
  refine lv_icmp_ne (tgt := 15) hx hb dX12_isFull_8 (by decide) (fun h_2 => ?_) (fun h_2 => ?_)
  · skip
    have zh_2 : ¬ x_1.toInt = 40 := z_ne h_2
    refine lv_iconst (v := 0) hx hb dX12_isFull_15 (by decide) ?_
    obtain ⟨hP9, hD9⟩ := sub2 hP hD (ws' := [(mo, .inr (12, [.int v0, .ref m1, .ref m2, .ref m3, .ref m4, .ref m5, .int v6, .int v7, .int v8, .int v9, .int v10, .long v11, .int v12, .int v13, .int v14, .int v15, .ref m16, .ref m17, .ref m18, .ref m19, .ref m20, .ref m21, .ref m22, .ref m23, .int v24, .ref m25, .ref m26, .ref m27, .ref m28, .ref m29, .int v30, .ref m31, .ref m32, .ref m33, .int v34, .int v35, .int v36, .ref m37, .ref m38, .ref m39, .ref m40, .long v41])), (m17, .inl (k 0, 30, .inl f17))]) [0, 1] (by decide +kernel) rfl
    exact W.zret (v := 0) hx hb hr (by decide) (fun tZ ht hW => ⟨⟨0, (), rfl, ⟨(show 0 ≤ 0 ∧ 0 ≤ 1 from by omega), (show 0 = 1 ∨ (f17 5).toInt ≤ 39 from by rw [show f17 5 = x_1 from ex_1.symm]; omega)⟩, by rw [ht]; exact hP9, va_K.moved hW.alike hK, hD9⟩, hS.F ht⟩) hS.2.2 dX12_isFull_16
  · skip
    have zh_2 : x_1.toInt = 40 := z_eq h_2
    refine lv_iconst (v := 1) hx hb dX12_isFull_11 (by decide) ?_
    refine lv_goto (tgt := 16) hx hb dX12_isFull_12 (by decide) ?_
    obtain ⟨hP9, hD9⟩ := sub2 hP hD (ws' := [(mo, .inr (12, [.int v0, .ref m1, .ref m2, .ref m3, .ref m4, .ref m5, .int v6, .int v7, .int v8, .int v9, .int v10, .long v11, .int v12, .int v13, .int v14, .int v15, .ref m16, .ref m17, .ref m18, .ref m19, .ref m20, .ref m21, .ref m22, .ref m23, .int v24, .ref m25, .ref m26, .ref m27, .ref m28, .ref m29, .int v30, .ref m31, .ref m32, .ref m33, .int v34, .int v35, .int v36, .ref m37, .ref m38, .ref m39, .ref m40, .long v41])), (m17, .inl (k 0, 30, .inl f17))]) [0, 1] (by decide +kernel) rfl
    exact W.zret (v := 1) hx hb hr (by decide) (fun tZ ht hW => ⟨⟨1, (), rfl, ⟨(show 0 ≤ 1 ∧ 1 ≤ 1 from by omega), (show 1 = 1 ∨ (f17 5).toInt ≤ 39 from by rw [show f17 5 = x_1 from ex_1.symm]; omega)⟩, by rw [ht]; exact hP9, va_K.moved hW.alike hK, hD9⟩, hS.F ht⟩) hS.2.2 dX12_isFull_16
set_option maxHeartbeats 4000000 in
set_option maxRecDepth 100000 in
theorem c_X12_acts_0 (l : Launch) (D : va_G) (k : Nat → ClassId) (mo : Nat) (p1 : Int32) (p2 : Int32) (v0 : Int32) (m1 : Nat) (m2 : Nat) (m3 : Nat) (m4 : Nat) (m5 : Nat) (v6 : Int32) (v7 : Int32) (v8 : Int32) (v9 : Int32) (v10 : Int32) (v11 : Int64) (v12 : Int32) (v13 : Int32) (v14 : Int32) (v15 : Int32) (m16 : Nat) (m17 : Nat) (m18 : Nat) (m19 : Nat) (m20 : Nat) (m21 : Nat) (m22 : Nat) (m23 : Nat) (v24 : Int32) (m25 : Nat) (m26 : Nat) (m27 : Nat) (m28 : Nat) (m29 : Nat) (v30 : Int32) (m31 : Nat) (m32 : Nat) (m33 : Nat) (v34 : Int32) (v35 : Int32) (v36 : Int32) (m37 : Nat) (m38 : Nat) (m39 : Nat) (m40 : Nat) (v41 : Int64) (f17 : Nat → Int32) (f18 : Nat → Int32) (f22 : Nat → Int32) (sz : Nat) (h_p1 : 0 ≤ p1.toInt ∧ p1.toInt ≤ 9) (h_p2 : 0 ≤ p2.toInt ∧ p2.toInt ≤ 1) (h_v6 : 0 ≤ v6.toInt ∧ v6.toInt ≤ 1000) (h_v24 : 0 ≤ v24.toInt ∧ v24.toInt ≤ 1023) (hp_f17_0 : PR 30 6 0 0 8 f17) (hp_f17_1 : PR 30 6 1 0 10 f17) (hp_f17_2 : PR 30 6 2 0 4 f17) (hp_f17_3 : PR 30 6 3 0 6 f17) (hp_f17_4 : PR 30 6 4 0 2 f17) (hp_f17_5 : PR 30 6 5 0 40 f17) (hp_f18_0 : PR 250 5 0 0 7 f18) (hp_f18_1 : PR 250 5 1 0 7 f18) (hp_f18_2 : PR 250 5 2 0 60 f18) (hp_f18_3 : PR 250 5 3 0 10 f18) (hp_f22_0 : PR 600 3 1 0 9 f22) (hp_f22_1 : PR 600 3 2 0 99 f22) (hp_f22_2 : AK f22) (hful : (f17 5).toInt ≤ 39) (hTK : TK f17 f18) : Met l yX12_acts (ww yX12_acts cX12_acts 5 none) ({ frames := 0, cells := 0, slots := 0, locals := 0 }) (Pre0 D k [(mo, .inr (12, [.int v0, .ref m1, .ref m2, .ref m3, .ref m4, .ref m5, .int v6, .int v7, .int v8, .int v9, .int v10, .long v11, .int v12, .int v13, .int v14, .int v15, .ref m16, .ref m17, .ref m18, .ref m19, .ref m20, .ref m21, .ref m22, .ref m23, .int v24, .ref m25, .ref m26, .ref m27, .ref m28, .ref m29, .int v30, .ref m31, .ref m32, .ref m33, .int v34, .int v35, .int v36, .ref m37, .ref m38, .ref m39, .ref m40, .long v41])), (m17, .inl (k 0, 30, .inl f17)), (m18, .inl (k 0, 250, .inl f18)), (m22, .inl (k 0, 600, .inl f22))] sz [.ref mo, .int 0, .int p1, .int p2]) (va_Qv (fun (u : (Nat → Int32) × (Nat → Int32)) => match u with | (f17z, f22z) => (PR 30 6 0 0 8 f17z) ∧ (PR 30 6 1 0 10 f17z) ∧ (PR 30 6 2 0 4 f17z) ∧ (PR 30 6 3 0 6 f17z) ∧ (PR 30 6 4 0 2 f17z) ∧ (PR 30 6 5 0 40 f17z) ∧ (PR 600 3 1 0 9 f22z) ∧ (PR 600 3 2 0 99 f22z) ∧ (AK f22z) ∧ (TK f17z f18)) (fun (u : (Nat → Int32) × (Nat → Int32)) tZ => match u with | (f17z, f22z) => Bw D k (va_A [(mo, .inr (12, [.int v0, .ref m1, .ref m2, .ref m3, .ref m4, .ref m5, .int v6, .int v7, .int v8, .int v9, .int v10, .long v11, .int v12, .int v13, .int v14, .int v15, .ref m16, .ref m17, .ref m18, .ref m19, .ref m20, .ref m21, .ref m22, .ref m23, .int v24, .ref m25, .ref m26, .ref m27, .ref m28, .ref m29, .int v30, .ref m31, .ref m32, .ref m33, .int v34, .int v35, .int v36, .ref m37, .ref m38, .ref m39, .ref m40, .long v41])), (m17, .inl (k 0, 30, .inl f17)), (m18, .inl (k 0, 250, .inl f18)), (m22, .inl (k 0, 600, .inl f22))] sz) [(mo, .inr (12, [.int v0, .ref m1, .ref m2, .ref m3, .ref m4, .ref m5, .int v6, .int v7, .int v8, .int v9, .int v10, .long v11, .int v12, .int v13, .int v14, .int v15, .ref m16, .ref m17, .ref m18, .ref m19, .ref m20, .ref m21, .ref m22, .ref m23, .int v24, .ref m25, .ref m26, .ref m27, .ref m28, .ref m29, .int v30, .ref m31, .ref m32, .ref m33, .int v34, .int v35, .int v36, .ref m37, .ref m38, .ref m39, .ref m40, .long v41])), (m17, .inl (k 0, 30, .inl f17z)), (m18, .inl (k 0, 250, .inl f18)), (m22, .inl (k 0, 600, .inl f22z))] tZ) (va_A [(mo, .inr (12, [.int v0, .ref m1, .ref m2, .ref m3, .ref m4, .ref m5, .int v6, .int v7, .int v8, .int v9, .int v10, .long v11, .int v12, .int v13, .int v14, .int v15, .ref m16, .ref m17, .ref m18, .ref m19, .ref m20, .ref m21, .ref m22, .ref m23, .int v24, .ref m25, .ref m26, .ref m27, .ref m28, .ref m29, .int v30, .ref m31, .ref m32, .ref m33, .int v34, .int v35, .int v36, .ref m37, .ref m38, .ref m39, .ref m40, .long v41])), (m17, .inl (k 0, 30, .inl f17)), (m18, .inl (k 0, 250, .inl f18)), (m22, .inl (k 0, 600, .inl f22))] sz)) 0 0 (va_A [(mo, .inr (12, [.int v0, .ref m1, .ref m2, .ref m3, .ref m4, .ref m5, .int v6, .int v7, .int v8, .int v9, .int v10, .long v11, .int v12, .int v13, .int v14, .int v15, .ref m16, .ref m17, .ref m18, .ref m19, .ref m20, .ref m21, .ref m22, .ref m23, .int v24, .ref m25, .ref m26, .ref m27, .ref m28, .ref m29, .int v30, .ref m31, .ref m32, .ref m33, .int v34, .int v35, .int v36, .ref m37, .ref m38, .ref m39, .ref m40, .long v41])), (m17, .inl (k 0, 30, .inl f17)), (m18, .inl (k 0, 250, .inl f18)), (m22, .inl (k 0, 600, .inl f22))] sz) := by
  refine Met.ofW (cc := cX12_acts) (maxL := 5) (ret := none) (by decide +kernel) rfl ?_
  intro p e s m args below meth c s₁ B hml hv
  obtain ⟨rfl, hsz, hP, hK, hD0, hN⟩ := hv
  have hx := B.exec
  have hb := B.bytes
  have hr := B.returns
  have hts : ∀ w ∈ TT, w.before _ s = true := fun w h => atoms_spec (ws := ww yX12_acts cX12_acts 5 none) B.pre w (List.mem_cons_of_mem _ h)
  have hown : s.vm.findClass RX12 = some m.cls := findClass_of_methodNamed B.named
  have hlocks := B.notSynchronized
  subst hsz
  have hD := hD0.self (sz := s.heap.size)
  generalize hAe : va_A [(mo, .inr (12, [.int v0, .ref m1, .ref m2, .ref m3, .ref m4, .ref m5, .int v6, .int v7, .int v8, .int v9, .int v10, .long v11, .int v12, .int v13, .int v14, .int v15, .ref m16, .ref m17, .ref m18, .ref m19, .ref m20, .ref m21, .ref m22, .ref m23, .int v24, .ref m25, .ref m26, .ref m27, .ref m28, .ref m29, .int v30, .ref m31, .ref m32, .ref m33, .int v34, .int v35, .int v36, .ref m37, .ref m38, .ref m39, .ref m40, .long v41])), (m17, .inl (k 0, 30, .inl f17)), (m18, .inl (k 0, 250, .inl f18)), (m22, .inl (k 0, 600, .inl f22))] s.heap.size = A at hD ⊢
  have hA : ∀ q : Nat, s.heap.size ≤ q → A q := fun q h => by rw [← hAe]; exact Or.inr h
  have hS : va_S A s.heap s.heap [] := va_S.rf
  have hl := lv_entry ([.ref mo, .int 0, .int p1, .int p2]) (n := 5) (Nat.le_of_ble_eq_true rfl)
  rw [lg_entry_eq]
  generalize (lg_sl ([.ref mo, .int 0, .int p1, .int p2]) ++ List.replicate (5 - (lg_sl ([.ref mo, .int 0, .int p1, .int p2])).length) Slot.unset).toArray = ls at hl ⊢
  have hl : lv_has ls 5 [(0, .ref mo), (1, .int 0), (2, .int p1), (3, .int p2)] := hl
  refine lv_iconst (v := 3) hx hb dX12_acts_0 (by decide) ?_
  refine lv_aload_n hx hb dX12_acts_1 rfl (lv_at hl 0 rfl) ?_
  refine va_get (D := D) (ci := 12) (v := .ref m17) (C := RX12) (T := TX12) (N := 42) hx hb hts iT_X12 hown hK hP 0 rfl rfl 17 (by decide) (hts _ tw_6_70) (fun _ h9 => h9) rfl dX12_acts_2 ?_
  refine lv_iconst (v := 5) hx hb dX12_acts_5 (by decide) ?_
  refine va_iald hx hb hK hP 1 0 rfl rfl (z_in (by decide) (by decide)) dX12_acts_6 ?_
  refine lv_topi (fun x_1 ex_1 => ?_)
  have zx_1r5 : 0 ≤ x_1.toInt ∧ x_1.toInt ≤ 40 := by rw [ex_1]; exact PR.ld hp_f17_5 (by decide) (by decide) (by decide)
  have zfx_1 : x_1.toInt ≤ 39 := by rw [ex_1]; exact hful
  refine lv_imul hx hb dX12_acts_7 ?_
  refine lv_topi (fun x_2 ex_2 => ?_)
  have zx_2 : x_2.toInt = 3 * x_1.toInt := by rw [ex_2]; exact z_mul rfl rfl (by omega) (by omega)
  refine lv_istore (lv' := [(4, .int x_2), (0, .ref mo), (1, .int 0), (2, .int p1), (3, .int p2)]) hx hb dX12_acts_8 hl (by decide) rfl (fun ls hl => ?_)
  refine lv_aload_n hx hb dX12_acts_10 rfl (lv_at hl 1 rfl) ?_
  refine va_get (D := D) (ci := 12) (v := .ref m22) (C := RX12) (T := TX12) (N := 42) hx hb hts iT_X12 hown hK hP 0 rfl rfl 22 (by decide) (hts _ tw_6_75) (fun _ h9 => h9) rfl dX12_acts_11 ?_
  refine lv_iload hx hb dX12_acts_14 (lv_at hl 0 rfl) ?_
  refine lv_iload_n hx hb dX12_acts_16 rfl (lv_at hl 2 rfl) ?_
  refine va_iast hx hb hK hP hD hS 3 0 rfl rfl (z_in (by omega) (by omega)) dX12_acts_17 (fun H locs hP hD hS => ?_)
  obtain ⟨g_3, eg_3⟩ : ∃ z : Nat → Int32, upd f22 x_2.toNatClampNeg 0 = z := ⟨_, rfl⟩
  have hP : va_P D vwCl [(mo, .inr (12, [.int v0, .ref m1, .ref m2, .ref m3, .ref m4, .ref m5, .int v6, .int v7, .int v8, .int v9, .int v10, .long v11, .int v12, .int v13, .int v14, .int v15, .ref m16, .ref m17, .ref m18, .ref m19, .ref m20, .ref m21, .ref m22, .ref m23, .int v24, .ref m25, .ref m26, .ref m27, .ref m28, .ref m29, .int v30, .ref m31, .ref m32, .ref m33, .int v34, .int v35, .int v36, .ref m37, .ref m38, .ref m39, .ref m40, .long v41])), (m17, .inl (k 0, 30, .inl f17)), (m18, .inl (k 0, 250, .inl f18)), (m22, .inl (k 0, 600, .inl (upd f22 x_2.toNatClampNeg 0)))] H := hP
  have hD : va_D A [(mo, .inr (12, [.int v0, .ref m1, .ref m2, .ref m3, .ref m4, .ref m5, .int v6, .int v7, .int v8, .int v9, .int v10, .long v11, .int v12, .int v13, .int v14, .int v15, .ref m16, .ref m17, .ref m18, .ref m19, .ref m20, .ref m21, .ref m22, .ref m23, .int v24, .ref m25, .ref m26, .ref m27, .ref m28, .ref m29, .int v30, .ref m31, .ref m32, .ref m33, .int v34, .int v35, .int v36, .ref m37, .ref m38, .ref m39, .ref m40, .long v41])), (m17, .inl (k 0, 30, .inl f17)), (m18, .inl (k 0, 250, .inl f18)), (m22, .inl (k 0, 600, .inl (upd f22 x_2.toNatClampNeg 0)))] := hD
  rw [eg_3] at hP hD
  have hp_4 : PR 600 3 1 0 9 g_3 := by rw [← eg_3]; exact PR.other hp_f22_0 (z_clm (by omega) (by omega))
  have hp_5 : PR 600 3 2 0 99 g_3 := by rw [← eg_3]; exact PR.other hp_f22_1 (z_clm (by omega) (by omega))
  refine lv_aload_n hx hb dX12_acts_18 rfl (lv_at hl 1 rfl) ?_
  refine va_get (D := D) (ci := 12) (v := .ref m22) (C := RX12) (T := TX12) (N := 42) hx hb hts iT_X12 hown hK hP 0 rfl rfl 22 (by decide) (hts _ tw_6_75) (fun _ h9 => h9) rfl dX12_acts_19 ?_
  refine lv_iload hx hb dX12_acts_22 (lv_at hl 0 rfl) ?_
  refine lv_iconst (v := 1) hx hb dX12_acts_24 (by decide) ?_
  refine lv_iadd hx hb dX12_acts_25 ?_
  refine lv_topi (fun x_6 ex_6 => ?_)
  have zx_6 : x_6.toInt = x_2.toInt + 1 := by rw [ex_6]; exact z_add rfl rfl (by omega) (by omega)
  refine lv_iload_n hx hb dX12_acts_26 rfl (lv_at hl 3 rfl) ?_
  refine va_iast hx hb hK hP hD hS 3 0 rfl rfl (z_in (by omega) (by omega)) dX12_acts_27 (fun H locs hP hD hS => ?_)
  obtain ⟨g_7, eg_7⟩ : ∃ z : Nat → Int32, upd g_3 x_6.toNatClampNeg p1 = z := ⟨_, rfl⟩
  have hP : va_P D vwCl [(mo, .inr (12, [.int v0, .ref m1, .ref m2, .ref m3, .ref m4, .ref m5, .int v6, .int v7, .int v8, .int v9, .int v10, .long v11, .int v12, .int v13, .int v14, .int v15, .ref m16, .ref m17, .ref m18, .ref m19, .ref m20, .ref m21, .ref m22, .ref m23, .int v24, .ref m25, .ref m26, .ref m27, .ref m28, .ref m29, .int v30, .ref m31, .ref m32, .ref m33, .int v34, .int v35, .int v36, .ref m37, .ref m38, .ref m39, .ref m40, .long v41])), (m17, .inl (k 0, 30, .inl f17)), (m18, .inl (k 0, 250, .inl f18)), (m22, .inl (k 0, 600, .inl (upd g_3 x_6.toNatClampNeg p1)))] H := hP
  have hD : va_D A [(mo, .inr (12, [.int v0, .ref m1, .ref m2, .ref m3, .ref m4, .ref m5, .int v6, .int v7, .int v8, .int v9, .int v10, .long v11, .int v12, .int v13, .int v14, .int v15, .ref m16, .ref m17, .ref m18, .ref m19, .ref m20, .ref m21, .ref m22, .ref m23, .int v24, .ref m25, .ref m26, .ref m27, .ref m28, .ref m29, .int v30, .ref m31, .ref m32, .ref m33, .int v34, .int v35, .int v36, .ref m37, .ref m38, .ref m39, .ref m40, .long v41])), (m17, .inl (k 0, 30, .inl f17)), (m18, .inl (k 0, 250, .inl f18)), (m22, .inl (k 0, 600, .inl (upd g_3 x_6.toNatClampNeg p1)))] := hD
  rw [eg_7] at hP hD
  have hp_8 : PR 600 3 1 0 9 g_7 := by rw [← eg_7]; exact PR.put hp_4 ⟨by omega, by omega⟩
  have hp_9 : PR 600 3 2 0 99 g_7 := by rw [← eg_7]; exact PR.other hp_5 (z_clm (by omega) (by omega))
  refine lv_aload_n hx hb dX12_acts_28 rfl (lv_at hl 1 rfl) ?_
  refine va_get (D := D) (ci := 12) (v := .ref m22) (C := RX12) (T := TX12) (N := 42) hx hb hts iT_X12 hown hK hP 0 rfl rfl 22 (by decide) (hts _ tw_6_75) (fun _ h9 => h9) rfl dX12_acts_29 ?_
  refine lv_iload hx hb dX12_acts_32 (lv_at hl 0 rfl) ?_
  refine lv_iconst (v := 2) hx hb dX12_acts_34 (by decide) ?_
  refine lv_iadd hx hb dX12_acts_35 ?_
  refine lv_topi (fun x_10 ex_10 => ?_)
  have zx_10 : x_10.toInt = x_2.toInt + 2 := by rw [ex_10]; exact z_add rfl rfl (by omega) (by omega)
  refine lv_iload_n hx hb dX12_acts_36 rfl (lv_at hl 4 rfl) ?_
  refine va_iast hx hb hK hP hD hS 3 0 rfl rfl (z_in (by omega) (by omega)) dX12_acts_37 (fun H locs hP hD hS => ?_)
  obtain ⟨g_11, eg_11⟩ : ∃ z : Nat → Int32, upd g_7 x_10.toNatClampNeg p2 = z := ⟨_, rfl⟩
  have hP : va_P D vwCl [(mo, .inr (12, [.int v0, .ref m1, .ref m2, .ref m3, .ref m4, .ref m5, .int v6, .int v7, .int v8, .int v9, .int v10, .long v11, .int v12, .int v13, .int v14, .int v15, .ref m16, .ref m17, .ref m18, .ref m19, .ref m20, .ref m21, .ref m22, .ref m23, .int v24, .ref m25, .ref m26, .ref m27, .ref m28, .ref m29, .int v30, .ref m31, .ref m32, .ref m33, .int v34, .int v35, .int v36, .ref m37, .ref m38, .ref m39, .ref m40, .long v41])), (m17, .inl (k 0, 30, .inl f17)), (m18, .inl (k 0, 250, .inl f18)), (m22, .inl (k 0, 600, .inl (upd g_7 x_10.toNatClampNeg p2)))] H := hP
  have hD : va_D A [(mo, .inr (12, [.int v0, .ref m1, .ref m2, .ref m3, .ref m4, .ref m5, .int v6, .int v7, .int v8, .int v9, .int v10, .long v11, .int v12, .int v13, .int v14, .int v15, .ref m16, .ref m17, .ref m18, .ref m19, .ref m20, .ref m21, .ref m22, .ref m23, .int v24, .ref m25, .ref m26, .ref m27, .ref m28, .ref m29, .int v30, .ref m31, .ref m32, .ref m33, .int v34, .int v35, .int v36, .ref m37, .ref m38, .ref m39, .ref m40, .long v41])), (m17, .inl (k 0, 30, .inl f17)), (m18, .inl (k 0, 250, .inl f18)), (m22, .inl (k 0, 600, .inl (upd g_7 x_10.toNatClampNeg p2)))] := hD
  rw [eg_11] at hP hD
  have hp_12 : PR 600 3 1 0 9 g_11 := by rw [← eg_11]; exact PR.other hp_8 (z_clm (by omega) (by omega))
  have hp_13 : PR 600 3 2 0 99 g_11 := by rw [← eg_11]; exact PR.put hp_9 ⟨by omega, by omega⟩
  refine lv_aload_n hx hb dX12_acts_38 rfl (lv_at hl 1 rfl) ?_
  refine va_get (D := D) (ci := 12) (v := .ref m17) (C := RX12) (T := TX12) (N := 42) hx hb hts iT_X12 hown hK hP 0 rfl rfl 17 (by decide) (hts _ tw_6_70) (fun _ h9 => h9) rfl dX12_acts_39 ?_
  refine lv_iconst (v := 5) hx hb dX12_acts_42 (by decide) ?_
  refine lv_dup2_11 hx hb dX12_acts_43 rfl rfl ?_
  refine va_iald hx hb hK hP 1 0 rfl rfl (z_in (by decide) (by decide)) dX12_acts_44 ?_
  refine lv_topi (fun x_14 ex_14 => ?_)
  obtain rfl : x_1 = x_14 := ex_1.trans ex_14.symm
  refine lv_iconst (v := 1) hx hb dX12_acts_45 (by decide) ?_
  refine lv_iadd hx hb dX12_acts_46 ?_
  refine lv_topi (fun x_15 ex_15 => ?_)
  have zx_15 : x_15.toInt = x_1.toInt + 1 := by rw [ex_15]; exact z_add rfl rfl (by omega) (by omega)
  refine va_iast hx hb hK hP hD hS 1 0 rfl rfl (z_in (by decide) (by decide)) dX12_acts_47 (fun H locs hP hD hS => ?_)
  obtain ⟨g_16, eg_16⟩ : ∃ z : Nat → Int32, upd f17 5 x_15 = z := ⟨_, rfl⟩
  have hP : va_P D vwCl [(mo, .inr (12, [.int v0, .ref m1, .ref m2, .ref m3, .ref m4, .ref m5, .int v6, .int v7, .int v8, .int v9, .int v10, .long v11, .int v12, .int v13, .int v14, .int v15, .ref m16, .ref m17, .ref m18, .ref m19, .ref m20, .ref m21, .ref m22, .ref m23, .int v24, .ref m25, .ref m26, .ref m27, .ref m28, .ref m29, .int v30, .ref m31, .ref m32, .ref m33, .int v34, .int v35, .int v36, .ref m37, .ref m38, .ref m39, .ref m40, .long v41])), (m17, .inl (k 0, 30, .inl (upd f17 5 x_15))), (m18, .inl (k 0, 250, .inl f18)), (m22, .inl (k 0, 600, .inl g_11))] H := hP
  have hD : va_D A [(mo, .inr (12, [.int v0, .ref m1, .ref m2, .ref m3, .ref m4, .ref m5, .int v6, .int v7, .int v8, .int v9, .int v10, .long v11, .int v12, .int v13, .int v14, .int v15, .ref m16, .ref m17, .ref m18, .ref m19, .ref m20, .ref m21, .ref m22, .ref m23, .int v24, .ref m25, .ref m26, .ref m27, .ref m28, .ref m29, .int v30, .ref m31, .ref m32, .ref m33, .int v34, .int v35, .int v36, .ref m37, .ref m38, .ref m39, .ref m40, .long v41])), (m17, .inl (k 0, 30, .inl (upd f17 5 x_15))), (m18, .inl (k 0, 250, .inl f18)), (m22, .inl (k 0, 600, .inl g_11))] := hD
  rw [eg_16] at hP hD
  have hp_17 : PR 30 6 0 0 8 g_16 := by rw [← eg_16]; exact PR.other hp_f17_0 (by decide)
  have hp_18 : PR 30 6 1 0 10 g_16 := by rw [← eg_16]; exact PR.other hp_f17_1 (by decide)
  have hp_19 : PR 30 6 2 0 4 g_16 := by rw [← eg_16]; exact PR.other hp_f17_2 (by decide)
  have hp_20 : PR 30 6 3 0 6 g_16 := by rw [← eg_16]; exact PR.other hp_f17_3 (by decide)
  have hp_21 : PR 30 6 4 0 2 g_16 := by rw [← eg_16]; exact PR.other hp_f17_4 (by decide)
  have hp_22 : PR 30 6 5 0 40 g_16 := by rw [← eg_16]; exact PR.put hp_f17_5 ⟨by omega, by omega⟩
  have tk_23 : TK g_16 f18 := by rw [← eg_16]; exact TK.other hTK (by decide)
  obtain ⟨hP9, hD9⟩ := sub2 hP hD (ws' := [(mo, .inr (12, [.int v0, .ref m1, .ref m2, .ref m3, .ref m4, .ref m5, .int v6, .int v7, .int v8, .int v9, .int v10, .long v11, .int v12, .int v13, .int v14, .int v15, .ref m16, .ref m17, .ref m18, .ref m19, .ref m20, .ref m21, .ref m22, .ref m23, .int v24, .ref m25, .ref m26, .ref m27, .ref m28, .ref m29, .int v30, .ref m31, .ref m32, .ref m33, .int v34, .int v35, .int v36, .ref m37, .ref m38, .ref m39, .ref m40, .long v41])), (m17, .inl (k 0, 30, .inl g_16)), (m18, .inl (k 0, 250, .inl f18)), (m22, .inl (k 0, 600, .inl g_11))]) [0, 1, 2, 3] (by decide +kernel) rfl
  exact W.vret hx hb hr (fun tZ ht hW => ⟨⟨(g_16, g_11), rfl, ⟨hp_17, hp_18, hp_19, hp_20, hp_21, hp_22, hp_12, hp_13, (show AK g_11 from by rw [← eg_11, ← eg_7, ← eg_3]; exact AK.put hp_f22_2 (i0 := x_2) (i1 := x_6) (i2 := x_10) (by omega) (by omega) (by omega) (by omega) (by omega) (fun q9 => by first | exact absurd q9 (by decide) | omega)), tk_23⟩, by rw [ht]; exact hP9, va_K.moved hW.alike hK, hD9⟩, hS.F ht⟩) hS.2.2 dX12_acts_48
set_option maxHeartbeats 4000000 in
set_option maxRecDepth 100000 in
theorem c_X12_acts_1 (l : Launch) (D : va_G) (k : Nat → ClassId) (mo : Nat) (p1 : Int32) (p2 : Int32) (v0 : Int32) (m1 : Nat) (m2 : Nat) (m3 : Nat) (m4 : Nat) (m5 : Nat) (v6 : Int32) (v7 : Int32) (v8 : Int32) (v9 : Int32) (v10 : Int32) (v11 : Int64) (v12 : Int32) (v13 : Int32) (v14 : Int32) (v15 : Int32) (m16 : Nat) (m17 : Nat) (m18 : Nat) (m19 : Nat) (m20 : Nat) (m21 : Nat) (m22 : Nat) (m23 : Nat) (v24 : Int32) (m25 : Nat) (m26 : Nat) (m27 : Nat) (m28 : Nat) (m29 : Nat) (v30 : Int32) (m31 : Nat) (m32 : Nat) (m33 : Nat) (v34 : Int32) (v35 : Int32) (v36 : Int32) (m37 : Nat) (m38 : Nat) (m39 : Nat) (m40 : Nat) (v41 : Int64) (f17 : Nat → Int32) (f18 : Nat → Int32) (f22 : Nat → Int32) (sz : Nat) (h_p1 : 0 ≤ p1.toInt ∧ p1.toInt ≤ 3) (h_p2 : 0 ≤ p2.toInt ∧ p2.toInt ≤ 99) (h_v6 : 0 ≤ v6.toInt ∧ v6.toInt ≤ 1000) (h_v24 : 0 ≤ v24.toInt ∧ v24.toInt ≤ 1023) (hp_f17_0 : PR 30 6 0 0 8 f17) (hp_f17_1 : PR 30 6 1 0 10 f17) (hp_f17_2 : PR 30 6 2 0 4 f17) (hp_f17_3 : PR 30 6 3 0 6 f17) (hp_f17_4 : PR 30 6 4 0 2 f17) (hp_f17_5 : PR 30 6 5 0 40 f17) (hp_f18_0 : PR 250 5 0 0 7 f18) (hp_f18_1 : PR 250 5 1 0 7 f18) (hp_f18_2 : PR 250 5 2 0 60 f18) (hp_f18_3 : PR 250 5 3 0 10 f18) (hp_f22_0 : PR 600 3 1 0 9 f22) (hp_f22_1 : PR 600 3 2 0 99 f22) (hp_f22_2 : AK f22) (hful : (f17 5).toInt ≤ 39) (hTK : TK f17 f18) : Met l yX12_acts (ww yX12_acts cX12_acts 5 none) ({ frames := 0, cells := 0, slots := 0, locals := 0 }) (Pre0 D k [(mo, .inr (12, [.int v0, .ref m1, .ref m2, .ref m3, .ref m4, .ref m5, .int v6, .int v7, .int v8, .int v9, .int v10, .long v11, .int v12, .int v13, .int v14, .int v15, .ref m16, .ref m17, .ref m18, .ref m19, .ref m20, .ref m21, .ref m22, .ref m23, .int v24, .ref m25, .ref m26, .ref m27, .ref m28, .ref m29, .int v30, .ref m31, .ref m32, .ref m33, .int v34, .int v35, .int v36, .ref m37, .ref m38, .ref m39, .ref m40, .long v41])), (m17, .inl (k 0, 30, .inl f17)), (m18, .inl (k 0, 250, .inl f18)), (m22, .inl (k 0, 600, .inl f22))] sz [.ref mo, .int 1, .int p1, .int p2]) (va_Qv (fun (u : (Nat → Int32) × (Nat → Int32)) => match u with | (f17z, f22z) => (PR 30 6 0 0 8 f17z) ∧ (PR 30 6 1 0 10 f17z) ∧ (PR 30 6 2 0 4 f17z) ∧ (PR 30 6 3 0 6 f17z) ∧ (PR 30 6 4 0 2 f17z) ∧ (PR 30 6 5 0 40 f17z) ∧ (PR 600 3 1 0 9 f22z) ∧ (PR 600 3 2 0 99 f22z) ∧ (AK f22z) ∧ (TK f17z f18)) (fun (u : (Nat → Int32) × (Nat → Int32)) tZ => match u with | (f17z, f22z) => Bw D k (va_A [(mo, .inr (12, [.int v0, .ref m1, .ref m2, .ref m3, .ref m4, .ref m5, .int v6, .int v7, .int v8, .int v9, .int v10, .long v11, .int v12, .int v13, .int v14, .int v15, .ref m16, .ref m17, .ref m18, .ref m19, .ref m20, .ref m21, .ref m22, .ref m23, .int v24, .ref m25, .ref m26, .ref m27, .ref m28, .ref m29, .int v30, .ref m31, .ref m32, .ref m33, .int v34, .int v35, .int v36, .ref m37, .ref m38, .ref m39, .ref m40, .long v41])), (m17, .inl (k 0, 30, .inl f17)), (m18, .inl (k 0, 250, .inl f18)), (m22, .inl (k 0, 600, .inl f22))] sz) [(mo, .inr (12, [.int v0, .ref m1, .ref m2, .ref m3, .ref m4, .ref m5, .int v6, .int v7, .int v8, .int v9, .int v10, .long v11, .int v12, .int v13, .int v14, .int v15, .ref m16, .ref m17, .ref m18, .ref m19, .ref m20, .ref m21, .ref m22, .ref m23, .int v24, .ref m25, .ref m26, .ref m27, .ref m28, .ref m29, .int v30, .ref m31, .ref m32, .ref m33, .int v34, .int v35, .int v36, .ref m37, .ref m38, .ref m39, .ref m40, .long v41])), (m17, .inl (k 0, 30, .inl f17z)), (m18, .inl (k 0, 250, .inl f18)), (m22, .inl (k 0, 600, .inl f22z))] tZ) (va_A [(mo, .inr (12, [.int v0, .ref m1, .ref m2, .ref m3, .ref m4, .ref m5, .int v6, .int v7, .int v8, .int v9, .int v10, .long v11, .int v12, .int v13, .int v14, .int v15, .ref m16, .ref m17, .ref m18, .ref m19, .ref m20, .ref m21, .ref m22, .ref m23, .int v24, .ref m25, .ref m26, .ref m27, .ref m28, .ref m29, .int v30, .ref m31, .ref m32, .ref m33, .int v34, .int v35, .int v36, .ref m37, .ref m38, .ref m39, .ref m40, .long v41])), (m17, .inl (k 0, 30, .inl f17)), (m18, .inl (k 0, 250, .inl f18)), (m22, .inl (k 0, 600, .inl f22))] sz)) 0 0 (va_A [(mo, .inr (12, [.int v0, .ref m1, .ref m2, .ref m3, .ref m4, .ref m5, .int v6, .int v7, .int v8, .int v9, .int v10, .long v11, .int v12, .int v13, .int v14, .int v15, .ref m16, .ref m17, .ref m18, .ref m19, .ref m20, .ref m21, .ref m22, .ref m23, .int v24, .ref m25, .ref m26, .ref m27, .ref m28, .ref m29, .int v30, .ref m31, .ref m32, .ref m33, .int v34, .int v35, .int v36, .ref m37, .ref m38, .ref m39, .ref m40, .long v41])), (m17, .inl (k 0, 30, .inl f17)), (m18, .inl (k 0, 250, .inl f18)), (m22, .inl (k 0, 600, .inl f22))] sz) := by
  refine Met.ofW (cc := cX12_acts) (maxL := 5) (ret := none) (by decide +kernel) rfl ?_
  intro p e s m args below meth c s₁ B hml hv
  obtain ⟨rfl, hsz, hP, hK, hD0, hN⟩ := hv
  have hx := B.exec
  have hb := B.bytes
  have hr := B.returns
  have hts : ∀ w ∈ TT, w.before _ s = true := fun w h => atoms_spec (ws := ww yX12_acts cX12_acts 5 none) B.pre w (List.mem_cons_of_mem _ h)
  have hown : s.vm.findClass RX12 = some m.cls := findClass_of_methodNamed B.named
  have hlocks := B.notSynchronized
  subst hsz
  have hD := hD0.self (sz := s.heap.size)
  generalize hAe : va_A [(mo, .inr (12, [.int v0, .ref m1, .ref m2, .ref m3, .ref m4, .ref m5, .int v6, .int v7, .int v8, .int v9, .int v10, .long v11, .int v12, .int v13, .int v14, .int v15, .ref m16, .ref m17, .ref m18, .ref m19, .ref m20, .ref m21, .ref m22, .ref m23, .int v24, .ref m25, .ref m26, .ref m27, .ref m28, .ref m29, .int v30, .ref m31, .ref m32, .ref m33, .int v34, .int v35, .int v36, .ref m37, .ref m38, .ref m39, .ref m40, .long v41])), (m17, .inl (k 0, 30, .inl f17)), (m18, .inl (k 0, 250, .inl f18)), (m22, .inl (k 0, 600, .inl f22))] s.heap.size = A at hD ⊢
  have hA : ∀ q : Nat, s.heap.size ≤ q → A q := fun q h => by rw [← hAe]; exact Or.inr h
  have hS : va_S A s.heap s.heap [] := va_S.rf
  have hl := lv_entry ([.ref mo, .int 1, .int p1, .int p2]) (n := 5) (Nat.le_of_ble_eq_true rfl)
  rw [lg_entry_eq]
  generalize (lg_sl ([.ref mo, .int 1, .int p1, .int p2]) ++ List.replicate (5 - (lg_sl ([.ref mo, .int 1, .int p1, .int p2])).length) Slot.unset).toArray = ls at hl ⊢
  have hl : lv_has ls 5 [(0, .ref mo), (1, .int 1), (2, .int p1), (3, .int p2)] := hl
  refine lv_iconst (v := 3) hx hb dX12_acts_0 (by decide) ?_
  refine lv_aload_n hx hb dX12_acts_1 rfl (lv_at hl 0 rfl) ?_
  refine va_get (D := D) (ci := 12) (v := .ref m17) (C := RX12) (T := TX12) (N := 42) hx hb hts iT_X12 hown hK hP 0 rfl rfl 17 (by decide) (hts _ tw_6_70) (fun _ h9 => h9) rfl dX12_acts_2 ?_
  refine lv_iconst (v := 5) hx hb dX12_acts_5 (by decide) ?_
  refine va_iald hx hb hK hP 1 0 rfl rfl (z_in (by decide) (by decide)) dX12_acts_6 ?_
  refine lv_topi (fun x_1 ex_1 => ?_)
  have zx_1r5 : 0 ≤ x_1.toInt ∧ x_1.toInt ≤ 40 := by rw [ex_1]; exact PR.ld hp_f17_5 (by decide) (by decide) (by decide)
  have zfx_1 : x_1.toInt ≤ 39 := by rw [ex_1]; exact hful
  refine lv_imul hx hb dX12_acts_7 ?_
  refine lv_topi (fun x_2 ex_2 => ?_)
  have zx_2 : x_2.toInt = 3 * x_1.toInt := by rw [ex_2]; exact z_mul rfl rfl (by omega) (by omega)
  refine lv_istore (lv' := [(4, .int x_2), (0, .ref mo), (1, .int 1), (2, .int p1), (3, .int p2)]) hx hb dX12_acts_8 hl (by decide) rfl (fun ls hl => ?_)
  refine lv_aload_n hx hb dX12_acts_10 rfl (lv_at hl 1 rfl) ?_
  refine va_get (D := D) (ci := 12) (v := .ref m22) (C := RX12) (T := TX12) (N := 42) hx hb hts iT_X12 hown hK hP 0 rfl rfl 22 (by decide) (hts _ tw_6_75) (fun _ h9 => h9) rfl dX12_acts_11 ?_
  refine lv_iload hx hb dX12_acts_14 (lv_at hl 0 rfl) ?_
  refine lv_iload_n hx hb dX12_acts_16 rfl (lv_at hl 2 rfl) ?_
  refine va_iast hx hb hK hP hD hS 3 0 rfl rfl (z_in (by omega) (by omega)) dX12_acts_17 (fun H locs hP hD hS => ?_)
  obtain ⟨g_3, eg_3⟩ : ∃ z : Nat → Int32, upd f22 x_2.toNatClampNeg 1 = z := ⟨_, rfl⟩
  have hP : va_P D vwCl [(mo, .inr (12, [.int v0, .ref m1, .ref m2, .ref m3, .ref m4, .ref m5, .int v6, .int v7, .int v8, .int v9, .int v10, .long v11, .int v12, .int v13, .int v14, .int v15, .ref m16, .ref m17, .ref m18, .ref m19, .ref m20, .ref m21, .ref m22, .ref m23, .int v24, .ref m25, .ref m26, .ref m27, .ref m28, .ref m29, .int v30, .ref m31, .ref m32, .ref m33, .int v34, .int v35, .int v36, .ref m37, .ref m38, .ref m39, .ref m40, .long v41])), (m17, .inl (k 0, 30, .inl f17)), (m18, .inl (k 0, 250, .inl f18)), (m22, .inl (k 0, 600, .inl (upd f22 x_2.toNatClampNeg 1)))] H := hP
  have hD : va_D A [(mo, .inr (12, [.int v0, .ref m1, .ref m2, .ref m3, .ref m4, .ref m5, .int v6, .int v7, .int v8, .int v9, .int v10, .long v11, .int v12, .int v13, .int v14, .int v15, .ref m16, .ref m17, .ref m18, .ref m19, .ref m20, .ref m21, .ref m22, .ref m23, .int v24, .ref m25, .ref m26, .ref m27, .ref m28, .ref m29, .int v30, .ref m31, .ref m32, .ref m33, .int v34, .int v35, .int v36, .ref m37, .ref m38, .ref m39, .ref m40, .long v41])), (m17, .inl (k 0, 30, .inl f17)), (m18, .inl (k 0, 250, .inl f18)), (m22, .inl (k 0, 600, .inl (upd f22 x_2.toNatClampNeg 1)))] := hD
  rw [eg_3] at hP hD
  have hp_4 : PR 600 3 1 0 9 g_3 := by rw [← eg_3]; exact PR.other hp_f22_0 (z_clm (by omega) (by omega))
  have hp_5 : PR 600 3 2 0 99 g_3 := by rw [← eg_3]; exact PR.other hp_f22_1 (z_clm (by omega) (by omega))
  refine lv_aload_n hx hb dX12_acts_18 rfl (lv_at hl 1 rfl) ?_
  refine va_get (D := D) (ci := 12) (v := .ref m22) (C := RX12) (T := TX12) (N := 42) hx hb hts iT_X12 hown hK hP 0 rfl rfl 22 (by decide) (hts _ tw_6_75) (fun _ h9 => h9) rfl dX12_acts_19 ?_
  refine lv_iload hx hb dX12_acts_22 (lv_at hl 0 rfl) ?_
  refine lv_iconst (v := 1) hx hb dX12_acts_24 (by decide) ?_
  refine lv_iadd hx hb dX12_acts_25 ?_
  refine lv_topi (fun x_6 ex_6 => ?_)
  have zx_6 : x_6.toInt = x_2.toInt + 1 := by rw [ex_6]; exact z_add rfl rfl (by omega) (by omega)
  refine lv_iload_n hx hb dX12_acts_26 rfl (lv_at hl 3 rfl) ?_
  refine va_iast hx hb hK hP hD hS 3 0 rfl rfl (z_in (by omega) (by omega)) dX12_acts_27 (fun H locs hP hD hS => ?_)
  obtain ⟨g_7, eg_7⟩ : ∃ z : Nat → Int32, upd g_3 x_6.toNatClampNeg p1 = z := ⟨_, rfl⟩
  have hP : va_P D vwCl [(mo, .inr (12, [.int v0, .ref m1, .ref m2, .ref m3, .ref m4, .ref m5, .int v6, .int v7, .int v8, .int v9, .int v10, .long v11, .int v12, .int v13, .int v14, .int v15, .ref m16, .ref m17, .ref m18, .ref m19, .ref m20, .ref m21, .ref m22, .ref m23, .int v24, .ref m25, .ref m26, .ref m27, .ref m28, .ref m29, .int v30, .ref m31, .ref m32, .ref m33, .int v34, .int v35, .int v36, .ref m37, .ref m38, .ref m39, .ref m40, .long v41])), (m17, .inl (k 0, 30, .inl f17)), (m18, .inl (k 0, 250, .inl f18)), (m22, .inl (k 0, 600, .inl (upd g_3 x_6.toNatClampNeg p1)))] H := hP
  have hD : va_D A [(mo, .inr (12, [.int v0, .ref m1, .ref m2, .ref m3, .ref m4, .ref m5, .int v6, .int v7, .int v8, .int v9, .int v10, .long v11, .int v12, .int v13, .int v14, .int v15, .ref m16, .ref m17, .ref m18, .ref m19, .ref m20, .ref m21, .ref m22, .ref m23, .int v24, .ref m25, .ref m26, .ref m27, .ref m28, .ref m29, .int v30, .ref m31, .ref m32, .ref m33, .int v34, .int v35, .int v36, .ref m37, .ref m38, .ref m39, .ref m40, .long v41])), (m17, .inl (k 0, 30, .inl f17)), (m18, .inl (k 0, 250, .inl f18)), (m22, .inl (k 0, 600, .inl (upd g_3 x_6.toNatClampNeg p1)))] := hD
  rw [eg_7] at hP hD
  have hp_8 : PR 600 3 1 0 9 g_7 := by rw [← eg_7]; exact PR.put hp_4 ⟨by omega, by omega⟩
  have hp_9 : PR 600 3 2 0 99 g_7 := by rw [← eg_7]; exact PR.other hp_5 (z_clm (by omega) (by omega))
  refine lv_aload_n hx hb dX12_acts_28 rfl (lv_at hl 1 rfl) ?_
  refine va_get (D := D) (ci := 12) (v := .ref m22) (C := RX12) (T := TX12) (N := 42) hx hb hts iT_X12 hown hK hP 0 rfl rfl 22 (by decide) (hts _ tw_6_75) (fun _ h9 => h9) rfl dX12_acts_29 ?_
  refine lv_iload hx hb dX12_acts_32 (lv_at hl 0 rfl) ?_
  refine lv_iconst (v := 2) hx hb dX12_acts_34 (by decide) ?_
  refine lv_iadd hx hb dX12_acts_35 ?_
  refine lv_topi (fun x_10 ex_10 => ?_)
  have zx_10 : x_10.toInt = x_2.toInt + 2 := by rw [ex_10]; exact z_add rfl rfl (by omega) (by omega)
  refine lv_iload_n hx hb dX12_acts_36 rfl (lv_at hl 4 rfl) ?_
  refine va_iast hx hb hK hP hD hS 3 0 rfl rfl (z_in (by omega) (by omega)) dX12_acts_37 (fun H locs hP hD hS => ?_)
  obtain ⟨g_11, eg_11⟩ : ∃ z : Nat → Int32, upd g_7 x_10.toNatClampNeg p2 = z := ⟨_, rfl⟩
  have hP : va_P D vwCl [(mo, .inr (12, [.int v0, .ref m1, .ref m2, .ref m3, .ref m4, .ref m5, .int v6, .int v7, .int v8, .int v9, .int v10, .long v11, .int v12, .int v13, .int v14, .int v15, .ref m16, .ref m17, .ref m18, .ref m19, .ref m20, .ref m21, .ref m22, .ref m23, .int v24, .ref m25, .ref m26, .ref m27, .ref m28, .ref m29, .int v30, .ref m31, .ref m32, .ref m33, .int v34, .int v35, .int v36, .ref m37, .ref m38, .ref m39, .ref m40, .long v41])), (m17, .inl (k 0, 30, .inl f17)), (m18, .inl (k 0, 250, .inl f18)), (m22, .inl (k 0, 600, .inl (upd g_7 x_10.toNatClampNeg p2)))] H := hP
  have hD : va_D A [(mo, .inr (12, [.int v0, .ref m1, .ref m2, .ref m3, .ref m4, .ref m5, .int v6, .int v7, .int v8, .int v9, .int v10, .long v11, .int v12, .int v13, .int v14, .int v15, .ref m16, .ref m17, .ref m18, .ref m19, .ref m20, .ref m21, .ref m22, .ref m23, .int v24, .ref m25, .ref m26, .ref m27, .ref m28, .ref m29, .int v30, .ref m31, .ref m32, .ref m33, .int v34, .int v35, .int v36, .ref m37, .ref m38, .ref m39, .ref m40, .long v41])), (m17, .inl (k 0, 30, .inl f17)), (m18, .inl (k 0, 250, .inl f18)), (m22, .inl (k 0, 600, .inl (upd g_7 x_10.toNatClampNeg p2)))] := hD
  rw [eg_11] at hP hD
  have hp_12 : PR 600 3 1 0 9 g_11 := by rw [← eg_11]; exact PR.other hp_8 (z_clm (by omega) (by omega))
  have hp_13 : PR 600 3 2 0 99 g_11 := by rw [← eg_11]; exact PR.put hp_9 ⟨by omega, by omega⟩
  refine lv_aload_n hx hb dX12_acts_38 rfl (lv_at hl 1 rfl) ?_
  refine va_get (D := D) (ci := 12) (v := .ref m17) (C := RX12) (T := TX12) (N := 42) hx hb hts iT_X12 hown hK hP 0 rfl rfl 17 (by decide) (hts _ tw_6_70) (fun _ h9 => h9) rfl dX12_acts_39 ?_
  refine lv_iconst (v := 5) hx hb dX12_acts_42 (by decide) ?_
  refine lv_dup2_11 hx hb dX12_acts_43 rfl rfl ?_
  refine va_iald hx hb hK hP 1 0 rfl rfl (z_in (by decide) (by decide)) dX12_acts_44 ?_
  refine lv_topi (fun x_14 ex_14 => ?_)
  obtain rfl : x_1 = x_14 := ex_1.trans ex_14.symm
  refine lv_iconst (v := 1) hx hb dX12_acts_45 (by decide) ?_
  refine lv_iadd hx hb dX12_acts_46 ?_
  refine lv_topi (fun x_15 ex_15 => ?_)
  have zx_15 : x_15.toInt = x_1.toInt + 1 := by rw [ex_15]; exact z_add rfl rfl (by omega) (by omega)
  refine va_iast hx hb hK hP hD hS 1 0 rfl rfl (z_in (by decide) (by decide)) dX12_acts_47 (fun H locs hP hD hS => ?_)
  obtain ⟨g_16, eg_16⟩ : ∃ z : Nat → Int32, upd f17 5 x_15 = z := ⟨_, rfl⟩
  have hP : va_P D vwCl [(mo, .inr (12, [.int v0, .ref m1, .ref m2, .ref m3, .ref m4, .ref m5, .int v6, .int v7, .int v8, .int v9, .int v10, .long v11, .int v12, .int v13, .int v14, .int v15, .ref m16, .ref m17, .ref m18, .ref m19, .ref m20, .ref m21, .ref m22, .ref m23, .int v24, .ref m25, .ref m26, .ref m27, .ref m28, .ref m29, .int v30, .ref m31, .ref m32, .ref m33, .int v34, .int v35, .int v36, .ref m37, .ref m38, .ref m39, .ref m40, .long v41])), (m17, .inl (k 0, 30, .inl (upd f17 5 x_15))), (m18, .inl (k 0, 250, .inl f18)), (m22, .inl (k 0, 600, .inl g_11))] H := hP
  have hD : va_D A [(mo, .inr (12, [.int v0, .ref m1, .ref m2, .ref m3, .ref m4, .ref m5, .int v6, .int v7, .int v8, .int v9, .int v10, .long v11, .int v12, .int v13, .int v14, .int v15, .ref m16, .ref m17, .ref m18, .ref m19, .ref m20, .ref m21, .ref m22, .ref m23, .int v24, .ref m25, .ref m26, .ref m27, .ref m28, .ref m29, .int v30, .ref m31, .ref m32, .ref m33, .int v34, .int v35, .int v36, .ref m37, .ref m38, .ref m39, .ref m40, .long v41])), (m17, .inl (k 0, 30, .inl (upd f17 5 x_15))), (m18, .inl (k 0, 250, .inl f18)), (m22, .inl (k 0, 600, .inl g_11))] := hD
  rw [eg_16] at hP hD
  have hp_17 : PR 30 6 0 0 8 g_16 := by rw [← eg_16]; exact PR.other hp_f17_0 (by decide)
  have hp_18 : PR 30 6 1 0 10 g_16 := by rw [← eg_16]; exact PR.other hp_f17_1 (by decide)
  have hp_19 : PR 30 6 2 0 4 g_16 := by rw [← eg_16]; exact PR.other hp_f17_2 (by decide)
  have hp_20 : PR 30 6 3 0 6 g_16 := by rw [← eg_16]; exact PR.other hp_f17_3 (by decide)
  have hp_21 : PR 30 6 4 0 2 g_16 := by rw [← eg_16]; exact PR.other hp_f17_4 (by decide)
  have hp_22 : PR 30 6 5 0 40 g_16 := by rw [← eg_16]; exact PR.put hp_f17_5 ⟨by omega, by omega⟩
  have tk_23 : TK g_16 f18 := by rw [← eg_16]; exact TK.other hTK (by decide)
  obtain ⟨hP9, hD9⟩ := sub2 hP hD (ws' := [(mo, .inr (12, [.int v0, .ref m1, .ref m2, .ref m3, .ref m4, .ref m5, .int v6, .int v7, .int v8, .int v9, .int v10, .long v11, .int v12, .int v13, .int v14, .int v15, .ref m16, .ref m17, .ref m18, .ref m19, .ref m20, .ref m21, .ref m22, .ref m23, .int v24, .ref m25, .ref m26, .ref m27, .ref m28, .ref m29, .int v30, .ref m31, .ref m32, .ref m33, .int v34, .int v35, .int v36, .ref m37, .ref m38, .ref m39, .ref m40, .long v41])), (m17, .inl (k 0, 30, .inl g_16)), (m18, .inl (k 0, 250, .inl f18)), (m22, .inl (k 0, 600, .inl g_11))]) [0, 1, 2, 3] (by decide +kernel) rfl
  exact W.vret hx hb hr (fun tZ ht hW => ⟨⟨(g_16, g_11), rfl, ⟨hp_17, hp_18, hp_19, hp_20, hp_21, hp_22, hp_12, hp_13, (show AK g_11 from by rw [← eg_11, ← eg_7, ← eg_3]; exact AK.put hp_f22_2 (i0 := x_2) (i1 := x_6) (i2 := x_10) (by omega) (by omega) (by omega) (by omega) (by omega) (fun q9 => by first | exact absurd q9 (by decide) | omega)), tk_23⟩, by rw [ht]; exact hP9, va_K.moved hW.alike hK, hD9⟩, hS.F ht⟩) hS.2.2 dX12_acts_48
set_option maxHeartbeats 4000000 in
set_option maxRecDepth 100000 in
theorem c_X12_bar (l : Launch) (D : va_G) (k : Nat → ClassId) (mo : Nat) (p0 : Int32) (p1 : Int32) (v0 : Int32) (m1 : Nat) (m2 : Nat) (m3 : Nat) (m4 : Nat) (m5 : Nat) (v6 : Int32) (v7 : Int32) (v8 : Int32) (v9 : Int32) (v10 : Int32) (v11 : Int64) (v12 : Int32) (v13 : Int32) (v14 : Int32) (v15 : Int32) (m16 : Nat) (m17 : Nat) (m18 : Nat) (m19 : Nat) (m20 : Nat) (m21 : Nat) (m22 : Nat) (m23 : Nat) (v24 : Int32) (m25 : Nat) (m26 : Nat) (m27 : Nat) (m28 : Nat) (m29 : Nat) (v30 : Int32) (m31 : Nat) (m32 : Nat) (m33 : Nat) (v34 : Int32) (v35 : Int32) (v36 : Int32) (m37 : Nat) (m38 : Nat) (m39 : Nat) (m40 : Nat) (v41 : Int64) (f17 : Nat → Int32) (f18 : Nat → Int32) (f19 : Nat → Int32) (f22 : Nat → Int32) (f25 : Nat → Int32) (sz : Nat) (h_v6 : 0 ≤ v6.toInt ∧ v6.toInt ≤ 1000) (h_v24 : 0 ≤ v24.toInt ∧ v24.toInt ≤ 1023) (hp_f17_0 : PR 30 6 0 0 8 f17) (hp_f17_1 : PR 30 6 1 0 10 f17) (hp_f17_2 : PR 30 6 2 0 4 f17) (hp_f17_3 : PR 30 6 3 0 6 f17) (hp_f17_4 : PR 30 6 4 0 2 f17) (hp_f17_5 : PR 30 6 5 0 40 f17) (hp_f18_0 : PR 250 5 0 0 7 f18) (hp_f18_1 : PR 250 5 1 0 7 f18) (hp_f18_2 : PR 250 5 2 0 60 f18) (hp_f18_3 : PR 250 5 3 0 10 f18) (hp_f19_0 : PR 40 2 0 0 7 f19) (hp_f19_1 : PR 40 2 1 0 99 f19) (hp_f22_0 : PR 600 3 1 0 9 f22) (hp_f22_1 : PR 600 3 2 0 99 f22) (hp_f22_2 : AK f22) (hp_f25_0 : PR 4 1 0 0 99 f25) (hTK : TK f17 f18) : Met l yX12_bar (ww yX12_bar cX12_bar 3 (some .int)) ({ frames := 2, cells := 0, slots := 0, locals := 46 }) (Pre0 D k [(mo, .inr (12, [.int v0, .ref m1, .ref m2, .ref m3, .ref m4, .ref m5, .int v6, .int v7, .int v8, .int v9, .int v10, .long v11, .int v12, .int v13, .int v14, .int v15, .ref m16, .ref m17, .ref m18, .ref m19, .ref m20, .ref m21, .ref m22, .ref m23, .int v24, .ref m25, .ref m26, .ref m27, .ref m28, .ref m29, .int v30, .ref m31, .ref m32, .ref m33, .int v34, .int v35, .int v36, .ref m37, .ref m38, .ref m39, .ref m40, .long v41])), (m17, .inl (k 0, 30, .inl f17)), (m18, .inl (k 0, 250, .inl f18)), (m19, .inl (k 0, 40, .inl f19)), (m22, .inl (k 0, 600, .inl f22)), (m25, .inl (k 0, 4, .inl f25))] sz [.ref mo, .int p0, .int p1]) (va_Qi (fun (r : Int32) (u : Int32 × Int32 × (Nat → Int32) × (Nat → Int32) × (Nat → Int32)) => match u with | (v0z, v24z, f17z, f22z, f25z) => ((-5) ≤ r.toInt ∧ r.toInt ≤ 1) ∧ (0 ≤ v0z.toInt ∧ v0z.toInt ≤ 0) ∧ (0 ≤ v24z.toInt ∧ v24z.toInt ≤ 1023) ∧ (PR 30 6 0 0 8 f17z) ∧ (PR 30 6 1 0 10 f17z) ∧ (PR 30 6 2 0 4 f17z) ∧ (PR 30 6 3 0 6 f17z) ∧ (PR 30 6 4 0 2 f17z) ∧ (PR 30 6 5 0 40 f17z) ∧ (PR 600 3 1 0 9 f22z) ∧ (PR 600 3 2 0 99 f22z) ∧ (AK f22z) ∧ (PR 4 1 0 0 99 f25z) ∧ (TK f17z f18)) (fun (u : Int32 × Int32 × (Nat → Int32) × (Nat → Int32) × (Nat → Int32)) tZ => match u with | (v0z, v24z, f17z, f22z, f25z) => Bw D k (va_A [(mo, .inr (12, [.int v0, .ref m1, .ref m2, .ref m3, .ref m4, .ref m5, .int v6, .int v7, .int v8, .int v9, .int v10, .long v11, .int v12, .int v13, .int v14, .int v15, .ref m16, .ref m17, .ref m18, .ref m19, .ref m20, .ref m21, .ref m22, .ref m23, .int v24, .ref m25, .ref m26, .ref m27, .ref m28, .ref m29, .int v30, .ref m31, .ref m32, .ref m33, .int v34, .int v35, .int v36, .ref m37, .ref m38, .ref m39, .ref m40, .long v41])), (m17, .inl (k 0, 30, .inl f17)), (m18, .inl (k 0, 250, .inl f18)), (m19, .inl (k 0, 40, .inl f19)), (m22, .inl (k 0, 600, .inl f22)), (m25, .inl (k 0, 4, .inl f25))] sz) [(mo, .inr (12, [.int v0z, .ref m1, .ref m2, .ref m3, .ref m4, .ref m5, .int v6, .int v7, .int v8, .int v9, .int v10, .long v11, .int v12, .int v13, .int v14, .int v15, .ref m16, .ref m17, .ref m18, .ref m19, .ref m20, .ref m21, .ref m22, .ref m23, .int v24z, .ref m25, .ref m26, .ref m27, .ref m28, .ref m29, .int v30, .ref m31, .ref m32, .ref m33, .int v34, .int v35, .int v36, .ref m37, .ref m38, .ref m39, .ref m40, .long v41])), (m17, .inl (k 0, 30, .inl f17z)), (m18, .inl (k 0, 250, .inl f18)), (m19, .inl (k 0, 40, .inl f19)), (m22, .inl (k 0, 600, .inl f22z)), (m25, .inl (k 0, 4, .inl f25z))] tZ) (va_A [(mo, .inr (12, [.int v0, .ref m1, .ref m2, .ref m3, .ref m4, .ref m5, .int v6, .int v7, .int v8, .int v9, .int v10, .long v11, .int v12, .int v13, .int v14, .int v15, .ref m16, .ref m17, .ref m18, .ref m19, .ref m20, .ref m21, .ref m22, .ref m23, .int v24, .ref m25, .ref m26, .ref m27, .ref m28, .ref m29, .int v30, .ref m31, .ref m32, .ref m33, .int v34, .int v35, .int v36, .ref m37, .ref m38, .ref m39, .ref m40, .long v41])), (m17, .inl (k 0, 30, .inl f17)), (m18, .inl (k 0, 250, .inl f18)), (m19, .inl (k 0, 40, .inl f19)), (m22, .inl (k 0, 600, .inl f22)), (m25, .inl (k 0, 4, .inl f25))] sz)) 0 0 (va_A [(mo, .inr (12, [.int v0, .ref m1, .ref m2, .ref m3, .ref m4, .ref m5, .int v6, .int v7, .int v8, .int v9, .int v10, .long v11, .int v12, .int v13, .int v14, .int v15, .ref m16, .ref m17, .ref m18, .ref m19, .ref m20, .ref m21, .ref m22, .ref m23, .int v24, .ref m25, .ref m26, .ref m27, .ref m28, .ref m29, .int v30, .ref m31, .ref m32, .ref m33, .int v34, .int v35, .int v36, .ref m37, .ref m38, .ref m39, .ref m40, .long v41])), (m17, .inl (k 0, 30, .inl f17)), (m18, .inl (k 0, 250, .inl f18)), (m19, .inl (k 0, 40, .inl f19)), (m22, .inl (k 0, 600, .inl f22)), (m25, .inl (k 0, 4, .inl f25))] sz) := by
  refine Met.ofW (cc := cX12_bar) (maxL := 3) (ret := (some .int)) (by decide +kernel) rfl ?_
  intro p e s m args below meth c s₁ B hml hv
  obtain ⟨rfl, hsz, hP, hK, hD0, hN⟩ := hv
  have hx := B.exec
  have hb := B.bytes
  have hr := B.returns
  have hts : ∀ w ∈ TT, w.before _ s = true := fun w h => atoms_spec (ws := ww yX12_bar cX12_bar 3 (some .int)) B.pre w (List.mem_cons_of_mem _ h)
  have hown : s.vm.findClass RX12 = some m.cls := findClass_of_methodNamed B.named
  have hlocks := B.notSynchronized
  subst hsz
  have hD := hD0.self (sz := s.heap.size)
  generalize hAe : va_A [(mo, .inr (12, [.int v0, .ref m1, .ref m2, .ref m3, .ref m4, .ref m5, .int v6, .int v7, .int v8, .int v9, .int v10, .long v11, .int v12, .int v13, .int v14, .int v15, .ref m16, .ref m17, .ref m18, .ref m19, .ref m20, .ref m21, .ref m22, .ref m23, .int v24, .ref m25, .ref m26, .ref m27, .ref m28, .ref m29, .int v30, .ref m31, .ref m32, .ref m33, .int v34, .int v35, .int v36, .ref m37, .ref m38, .ref m39, .ref m40, .long v41])), (m17, .inl (k 0, 30, .inl f17)), (m18, .inl (k 0, 250, .inl f18)), (m19, .inl (k 0, 40, .inl f19)), (m22, .inl (k 0, 600, .inl f22)), (m25, .inl (k 0, 4, .inl f25))] s.heap.size = A at hD ⊢
  have hA : ∀ q : Nat, s.heap.size ≤ q → A q := fun q h => by rw [← hAe]; exact Or.inr h
  have hS : va_S A s.heap s.heap [] := va_S.rf
  have hl := lv_entry ([.ref mo, .int p0, .int p1]) (n := 3) (Nat.le_of_ble_eq_true rfl)
  rw [lg_entry_eq]
  generalize (lg_sl ([.ref mo, .int p0, .int p1]) ++ List.replicate (3 - (lg_sl ([.ref mo, .int p0, .int p1])).length) Slot.unset).toArray = ls at hl ⊢
  have hl : lv_has ls 3 [(0, .ref mo), (1, .int p0), (2, .int p1)] := hl
  refine lv_aload_n hx hb dX12_bar_0 rfl (lv_at hl 0 rfl) ?_
  refine lv_iconst (v := 0) hx hb dX12_bar_1 (by decide) ?_
  refine va_put (D := D) (ci := 12) (v := .int 0) (ty := tyX12 0) (C := RX12) (T := TX12) (N := 42) hx hb hts iT_X12 tyX12 tyX12_ok nmX12 hown hK hP hD hS 0 rfl rfl 0 (by decide) (hts _ tw_6_53) (fun _ h9 => h9) rfl (tyX12_ok 0 (by decide)) rfl rfl (Nat.le_of_ble_eq_true rfl) dX12_bar_2 (fun H locs hP hD hS => ?_)
  have hP : va_P D vwCl [(mo, .inr (12, [.int 0, .ref m1, .ref m2, .ref m3, .ref m4, .ref m5, .int v6, .int v7, .int v8, .int v9, .int v10, .long v11, .int v12, .int v13, .int v14, .int v15, .ref m16, .ref m17, .ref m18, .ref m19, .ref m20, .ref m21, .ref m22, .ref m23, .int v24, .ref m25, .ref m26, .ref m27, .ref m28, .ref m29, .int v30, .ref m31, .ref m32, .ref m33, .int v34, .int v35, .int v36, .ref m37, .ref m38, .ref m39, .ref m40, .long v41])), (m17, .inl (k 0, 30, .inl f17)), (m18, .inl (k 0, 250, .inl f18)), (m19, .inl (k 0, 40, .inl f19)), (m22, .inl (k 0, 600, .inl f22)), (m25, .inl (k 0, 4, .inl f25))] H := hP
  have hD : va_D A [(mo, .inr (12, [.int 0, .ref m1, .ref m2, .ref m3, .ref m4, .ref m5, .int v6, .int v7, .int v8, .int v9, .int v10, .long v11, .int v12, .int v13, .int v14, .int v15, .ref m16, .ref m17, .ref m18, .ref m19, .ref m20, .ref m21, .ref m22, .ref m23, .int v24, .ref m25, .ref m26, .ref m27, .ref m28, .ref m29, .int v30, .ref m31, .ref m32, .ref m33, .int v34, .int v35, .int v36, .ref m37, .ref m38, .ref m39, .ref m40, .long v41])), (m17, .inl (k 0, 30, .inl f17)), (m18, .inl (k 0, 250, .inl f18)), (m19, .inl (k 0, 40, .inl f19)), (m22, .inl (k 0, 600, .inl f22)), (m25, .inl (k 0, 4, .inl f25))] := hD
  refine lv_aload_n hx hb dX12_bar_5 rfl (lv_at hl 0 rfl) ?_
  refine lv_iload_n hx hb dX12_bar_6 rfl (lv_at hl 1 rfl) ?_
  obtain ⟨hPc, hDc, hFc⟩ := sub3 hP hD hS hA (ws' := [(mo, .inr (12, [.int 0, .ref m1, .ref m2, .ref m3, .ref m4, .ref m5, .int v6, .int v7, .int v8, .int v9, .int v10, .long v11, .int v12, .int v13, .int v14, .int v15, .ref m16, .ref m17, .ref m18, .ref m19, .ref m20, .ref m21, .ref m22, .ref m23, .int v24, .ref m25, .ref m26, .ref m27, .ref m28, .ref m29, .int v30, .ref m31, .ref m32, .ref m33, .int v34, .int v35, .int v36, .ref m37, .ref m38, .ref m39, .ref m40, .long v41])), (m17, .inl (k 0, 30, .inl f17))]) [0, 1] (by decide +kernel) rfl
  refine va_calli (va_runV (C := RX12) (As := [.int p0]) (rest := []) ⟨hx, hb, hml, hown, hts⟩ (c_X12_isLane l D k mo p0 0 m1 m2 m3 m4 m5 v6 v7 v8 v9 v10 v11 v12 v13 v14 v15 m16 m17 m18 m19 m20 m21 m22 m23 v24 m25 m26 m27 m28 m29 v30 m31 m32 m33 v34 v35 v36 m37 m38 m39 m40 v41 f17 H.size (show 0 ≤ v6.toInt ∧ v6.toInt ≤ 1000 from by omega) (show 0 ≤ v24.toInt ∧ v24.toInt ≤ 1023 from by omega) hp_f17_0 hp_f17_1 hp_f17_2 hp_f17_3 hp_f17_4 hp_f17_5) (cwV 1 hts (gV tw_7_98 tw_7_100 tw_p_58 tw_1_13 tw_7_101) rfl rfl rfl hdV_X12_isLane ⟨Nat.le_of_ble_eq_true rfl, Nat.le_of_ble_eq_true rfl⟩) (cz_V hK hPc hDc hN (ci := 12) (q0 := 0) rfl rfl [.int p0]) rfl rfl hl.1 rfl (lv_room (Nat.le_of_ble_eq_true rfl)) dX12_bar_7 ⟨Nat.le_of_ble_eq_true rfl, Nat.le_of_ble_eq_true rfl⟩) hS (fun q _ h => hFc q h) hFc (fun r_1 uZ tZ H1 locs ht hvm hw hB hz1 hk1 hS => ?_)
  obtain ⟨hP1, hK1, hD1⟩ := hB
  rw [ht] at hP1
  obtain ⟨hP, hD⟩ := va_join (wr := [(m18, .inl (k 0, 250, .inl f18)), (m19, .inl (k 0, 40, .inl f19)), (m22, .inl (k 0, 600, .inl f22)), (m25, .inl (k 0, 4, .inl f25))]) (w1 := [(mo, .inr (12, [.int 0, .ref m1, .ref m2, .ref m3, .ref m4, .ref m5, .int v6, .int v7, .int v8, .int v9, .int v10, .long v11, .int v12, .int v13, .int v14, .int v15, .ref m16, .ref m17, .ref m18, .ref m19, .ref m20, .ref m21, .ref m22, .ref m23, .int v24, .ref m25, .ref m26, .ref m27, .ref m28, .ref m29, .int v30, .ref m31, .ref m32, .ref m33, .int v34, .int v35, .int v36, .ref m37, .ref m38, .ref m39, .ref m40, .long v41])), (m17, .inl (k 0, 30, .inl f17))]) hP hD [0, 1] [2, 3, 4, 5] rfl rfl (by decide +kernel) (by decide +kernel) hk1 hFc hP1 hD1
  clear hK1 hP1 hD1 hPc hDc hFc
  clear hk1 hz1 ht hvm
  have hP : va_P D vwCl [(m18, .inl (k 0, 250, .inl f18)), (m19, .inl (k 0, 40, .inl f19)), (m22, .inl (k 0, 600, .inl f22)), (m25, .inl (k 0, 4, .inl f25)), (mo, .inr (12, [.int 0, .ref m1, .ref m2, .ref m3, .ref m4, .ref m5, .int v6, .int v7, .int v8, .int v9, .int v10, .long v11, .int v12, .int v13, .int v14, .int v15, .ref m16, .ref m17, .ref m18, .ref m19, .ref m20, .ref m21, .ref m22, .ref m23, .int v24, .ref m25, .ref m26, .ref m27, .ref m28, .ref m29, .int v30, .ref m31, .ref m32, .ref m33, .int v34, .int v35, .int v36, .ref m37, .ref m38, .ref m39, .ref m40, .long v41])), (m17, .inl (k 0, 30, .inl f17))] H1 := hP
  have hD : va_D A [(m18, .inl (k 0, 250, .inl f18)), (m19, .inl (k 0, 40, .inl f19)), (m22, .inl (k 0, 600, .inl f22)), (m25, .inl (k 0, 4, .inl f25)), (mo, .inr (12, [.int 0, .ref m1, .ref m2, .ref m3, .ref m4, .ref m5, .int v6, .int v7, .int v8, .int v9, .int v10, .long v11, .int v12, .int v13, .int v14, .int v15, .ref m16, .ref m17, .ref m18, .ref m19, .ref m20, .ref m21, .ref m22, .ref m23, .int v24, .ref m25, .ref m26, .ref m27, .ref m28, .ref m29, .int v30, .ref m31, .ref m32, .ref m33, .int v34, .int v35, .int v36, .ref m37, .ref m38, .ref m39, .ref m40, .long v41])), (m17, .inl (k 0, 30, .inl f17))] := hD
  generalize H1 = H at hP hS ⊢
  have hw_2 : (0 ≤ r_1.toInt ∧ r_1.toInt ≤ 1) ∧ ((r_1.toInt = 1 ∧ 0 ≤ p0.toInt ∧ p0.toInt ≤ 9) ∨ r_1.toInt = 0) := hw
  obtain ⟨hw_3, hw_4⟩ := hw_2
  clear hw
  refine lv_if_eq (tgt := 20) hx hb dX12_bar_10 (by decide) (fun h_5 => ?_) (fun h_5 => ?_)
  · skip
    have zh_5 : r_1.toInt = 0 := z_eq h_5
    refine lv_bipush (v := (-2)) hx hb dX12_bar_20 (by decide) ?_
    obtain ⟨hP9, hD9⟩ := sub2 hP hD (ws' := [(mo, .inr (12, [.int 0, .ref m1, .ref m2, .ref m3, .ref m4, .ref m5, .int v6, .int v7, .int v8, .int v9, .int v10, .long v11, .int v12, .int v13, .int v14, .int v15, .ref m16, .ref m17, .ref m18, .ref m19, .ref m20, .ref m21, .ref m22, .ref m23, .int v24, .ref m25, .ref m26, .ref m27, .ref m28, .ref m29, .int v30, .ref m31, .ref m32, .ref m33, .int v34, .int v35, .int v36, .ref m37, .ref m38, .ref m39, .ref m40, .long v41])), (m17, .inl (k 0, 30, .inl f17)), (m18, .inl (k 0, 250, .inl f18)), (m19, .inl (k 0, 40, .inl f19)), (m22, .inl (k 0, 600, .inl f22)), (m25, .inl (k 0, 4, .inl f25))]) [4, 5, 0, 1, 2, 3] (by decide +kernel) rfl
    exact W.iret (v := (-2)) hx hb hr (fun tZ ht hW => ⟨⟨(-2), (0, v24, f17, f22, f25), rfl, ⟨(show (-5) ≤ (-2) ∧ (-2) ≤ 1 from by omega), (show 0 ≤ 0 ∧ 0 ≤ 0 from by omega), (show 0 ≤ v24.toInt ∧ v24.toInt ≤ 1023 from by omega), hp_f17_0, hp_f17_1, hp_f17_2, hp_f17_3, hp_f17_4, hp_f17_5, hp_f22_0, hp_f22_1, hp_f22_2, hp_f25_0, hTK⟩, by rw [ht]; exact hP9, va_K.moved hW.alike hK, hD9⟩, hS.F ht⟩) hS.2.2 dX12_bar_22
  · skip
    have zh_5 : ¬ r_1.toInt = 0 := z_ne h_5
    refine lv_iload_n hx hb dX12_bar_13 rfl (lv_at hl 2 rfl) ?_
    obtain ⟨hPc, hDc, hFc⟩ := sub3 hP hD hS hA (ws' := []) [] (by decide +kernel) rfl
    refine va_calli (va_runS (As := [.int p1]) (rest := []) ⟨hx, hb, hml, hown, hts⟩ (c_X12_isHalf l D k p1 H.size) (va_cwS 1 hts (gS tw_7_118 tw_7_119 tw_1_13 tw_7_120) rfl rfl rfl hdS_X12_isHalf ⟨Nat.le_of_ble_eq_true rfl, Nat.le_of_ble_eq_true rfl⟩) (cz_S hK hPc hDc hN [.int p1]) rfl rfl hl.1 rfl (lv_room (Nat.le_of_ble_eq_true rfl)) dX12_bar_14 ⟨Nat.le_of_ble_eq_true rfl, Nat.le_of_ble_eq_true rfl⟩) hS (fun q _ h => hFc q h) hFc (fun r_6 uZ tZ H1 locs ht hvm hw hB hz1 hk1 hS => ?_)
    obtain ⟨hP1, hK1, hD1⟩ := hB
    rw [ht] at hP1
    obtain ⟨hP, hD⟩ := va_join (wr := [(m18, .inl (k 0, 250, .inl f18)), (m19, .inl (k 0, 40, .inl f19)), (m22, .inl (k 0, 600, .inl f22)), (m25, .inl (k 0, 4, .inl f25)), (mo, .inr (12, [.int 0, .ref m1, .ref m2, .ref m3, .ref m4, .ref m5, .int v6, .int v7, .int v8, .int v9, .int v10, .long v11, .int v12, .int v13, .int v14, .int v15, .ref m16, .ref m17, .ref m18, .ref m19, .ref m20, .ref m21, .ref m22, .ref m23, .int v24, .ref m25, .ref m26, .ref m27, .ref m28, .ref m29, .int v30, .ref m31, .ref m32, .ref m33, .int v34, .int v35, .int v36, .ref m37, .ref m38, .ref m39, .ref m40, .long v41])), (m17, .inl (k 0, 30, .inl f17))]) (w1 := []) hP hD [] [0, 1, 2, 3, 4, 5] rfl rfl (by decide +kernel) (by decide +kernel) hk1 hFc hP1 hD1
    clear hK1 hP1 hD1 hPc hDc hFc
    clear hk1 hz1 ht hvm
    have hP : va_P D vwCl [(m18, .inl (k 0, 250, .inl f18)), (m19, .inl (k 0, 40, .inl f19)), (m22, .inl (k 0, 600, .inl f22)), (m25, .inl (k 0, 4, .inl f25)), (mo, .inr (12, [.int 0, .ref m1, .ref m2, .ref m3, .ref m4, .ref m5, .int v6, .int v7, .int v8, .int v9, .int v10, .long v11, .int v12, .int v13, .int v14, .int v15, .ref m16, .ref m17, .ref m18, .ref m19, .ref m20, .ref m21, .ref m22, .ref m23, .int v24, .ref m25, .ref m26, .ref m27, .ref m28, .ref m29, .int v30, .ref m31, .ref m32, .ref m33, .int v34, .int v35, .int v36, .ref m37, .ref m38, .ref m39, .ref m40, .long v41])), (m17, .inl (k 0, 30, .inl f17))] H1 := hP
    have hD : va_D A [(m18, .inl (k 0, 250, .inl f18)), (m19, .inl (k 0, 40, .inl f19)), (m22, .inl (k 0, 600, .inl f22)), (m25, .inl (k 0, 4, .inl f25)), (mo, .inr (12, [.int 0, .ref m1, .ref m2, .ref m3, .ref m4, .ref m5, .int v6, .int v7, .int v8, .int v9, .int v10, .long v11, .int v12, .int v13, .int v14, .int v15, .ref m16, .ref m17, .ref m18, .ref m19, .ref m20, .ref m21, .ref m22, .ref m23, .int v24, .ref m25, .ref m26, .ref m27, .ref m28, .ref m29, .int v30, .ref m31, .ref m32, .ref m33, .int v34, .int v35, .int v36, .ref m37, .ref m38, .ref m39, .ref m40, .long v41])), (m17, .inl (k 0, 30, .inl f17))] := hD
    generalize H1 = H at hP hS ⊢
    have hw_7 : (0 ≤ r_6.toInt ∧ r_6.toInt ≤ 1) ∧ ((r_6.toInt = 1 ∧ 0 ≤ p1.toInt ∧ p1.toInt ≤ 1) ∨ r_6.toInt = 0) := hw
    obtain ⟨hw_8, hw_9⟩ := hw_7
    clear hw
    refine lv_if_ne (tgt := 23) hx hb dX12_bar_17 (by decide) (fun h_10 => ?_) (fun h_10 => ?_)
    · skip
      have zh_10 : ¬ r_6.toInt = 0 := z_ne h_10
      refine lv_aload_n hx hb dX12_bar_23 rfl (lv_at hl 0 rfl) ?_
      obtain ⟨hPc, hDc, hFc⟩ := sub3 hP hD hS hA (ws' := [(mo, .inr (12, [.int 0, .ref m1, .ref m2, .ref m3, .ref m4, .ref m5, .int v6, .int v7, .int v8, .int v9, .int v10, .long v11, .int v12, .int v13, .int v14, .int v15, .ref m16, .ref m17, .ref m18, .ref m19, .ref m20, .ref m21, .ref m22, .ref m23, .int v24, .ref m25, .ref m26, .ref m27, .ref m28, .ref m29, .int v30, .ref m31, .ref m32, .ref m33, .int v34, .int v35, .int v36, .ref m37, .ref m38, .ref m39, .ref m40, .long v41])), (m17, .inl (k 0, 30, .inl f17))]) [4, 5] (by decide +kernel) rfl
      refine va_calli (va_runV (C := RX12) (As := []) (rest := []) ⟨hx, hb, hml, hown, hts⟩ (c_X12_isFull l D k mo 0 m1 m2 m3 m4 m5 v6 v7 v8 v9 v10 v11 v12 v13 v14 v15 m16 m17 m18 m19 m20 m21 m22 m23 v24 m25 m26 m27 m28 m29 v30 m31 m32 m33 v34 v35 v36 m37 m38 m39 m40 v41 f17 H.size (show 0 ≤ v6.toInt ∧ v6.toInt ≤ 1000 from by omega) (show 0 ≤ v24.toInt ∧ v24.toInt ≤ 1023 from by omega) hp_f17_0 hp_f17_1 hp_f17_2 hp_f17_3 hp_f17_4 hp_f17_5) (cwV 0 hts (gV tw_8_204 tw_8_206 tw_p_95 tw_1_13 tw_8_207) rfl rfl rfl hdV_X12_isFull ⟨Nat.le_of_ble_eq_true rfl, Nat.le_of_ble_eq_true rfl⟩) (cz_V hK hPc hDc hN (ci := 12) (q0 := 0) rfl rfl []) rfl rfl hl.1 rfl (lv_room (Nat.le_of_ble_eq_true rfl)) dX12_bar_24 ⟨Nat.le_of_ble_eq_true rfl, Nat.le_of_ble_eq_true rfl⟩) hS (fun q _ h => hFc q h) hFc (fun r_11 uZ tZ H1 locs ht hvm hw hB hz1 hk1 hS => ?_)
      obtain ⟨hP1, hK1, hD1⟩ := hB
      rw [ht] at hP1
      obtain ⟨hP, hD⟩ := va_join (wr := [(m18, .inl (k 0, 250, .inl f18)), (m19, .inl (k 0, 40, .inl f19)), (m22, .inl (k 0, 600, .inl f22)), (m25, .inl (k 0, 4, .inl f25))]) (w1 := [(mo, .inr (12, [.int 0, .ref m1, .ref m2, .ref m3, .ref m4, .ref m5, .int v6, .int v7, .int v8, .int v9, .int v10, .long v11, .int v12, .int v13, .int v14, .int v15, .ref m16, .ref m17, .ref m18, .ref m19, .ref m20, .ref m21, .ref m22, .ref m23, .int v24, .ref m25, .ref m26, .ref m27, .ref m28, .ref m29, .int v30, .ref m31, .ref m32, .ref m33, .int v34, .int v35, .int v36, .ref m37, .ref m38, .ref m39, .ref m40, .long v41])), (m17, .inl (k 0, 30, .inl f17))]) hP hD [4, 5] [0, 1, 2, 3] rfl rfl (by decide +kernel) (by decide +kernel) hk1 hFc hP1 hD1
      clear hK1 hP1 hD1 hPc hDc hFc
      clear hk1 hz1 ht hvm
      have hP : va_P D vwCl [(m18, .inl (k 0, 250, .inl f18)), (m19, .inl (k 0, 40, .inl f19)), (m22, .inl (k 0, 600, .inl f22)), (m25, .inl (k 0, 4, .inl f25)), (mo, .inr (12, [.int 0, .ref m1, .ref m2, .ref m3, .ref m4, .ref m5, .int v6, .int v7, .int v8, .int v9, .int v10, .long v11, .int v12, .int v13, .int v14, .int v15, .ref m16, .ref m17, .ref m18, .ref m19, .ref m20, .ref m21, .ref m22, .ref m23, .int v24, .ref m25, .ref m26, .ref m27, .ref m28, .ref m29, .int v30, .ref m31, .ref m32, .ref m33, .int v34, .int v35, .int v36, .ref m37, .ref m38, .ref m39, .ref m40, .long v41])), (m17, .inl (k 0, 30, .inl f17))] H1 := hP
      have hD : va_D A [(m18, .inl (k 0, 250, .inl f18)), (m19, .inl (k 0, 40, .inl f19)), (m22, .inl (k 0, 600, .inl f22)), (m25, .inl (k 0, 4, .inl f25)), (mo, .inr (12, [.int 0, .ref m1, .ref m2, .ref m3, .ref m4, .ref m5, .int v6, .int v7, .int v8, .int v9, .int v10, .long v11, .int v12, .int v13, .int v14, .int v15, .ref m16, .ref m17, .ref m18, .ref m19, .ref m20, .ref m21, .ref m22, .ref m23, .int v24, .ref m25, .ref m26, .ref m27, .ref m28, .ref m29, .int v30, .ref m31, .ref m32, .ref m33, .int v34, .int v35, .int v36, .ref m37, .ref m38, .ref m39, .ref m40, .long v41])), (m17, .inl (k 0, 30, .inl f17))] := hD
      generalize H1 = H at hP hS ⊢
      have hw_12 : (0 ≤ r_11.toInt ∧ r_11.toInt ≤ 1) ∧ (r_11.toInt = 1 ∨ (f17 5).toInt ≤ 39) := hw
      obtain ⟨hw_13, hw_14⟩ := hw_12
      clear hw
      refine lv_if_eq (tgt := 33) hx hb dX12_bar_27 (by decide) (fun h_15 => ?_) (fun h_15 => ?_)
      · skip
        have zh_15 : r_11.toInt = 0 := z_eq h_15
        refine lv_aload_n hx hb dX12_bar_33 rfl (lv_at hl 0 rfl) ?_
        obtain ⟨hPc, hDc, hFc⟩ := sub3 hP hD hS hA (ws' := [(mo, .inr (12, [.int 0, .ref m1, .ref m2, .ref m3, .ref m4, .ref m5, .int v6, .int v7, .int v8, .int v9, .int v10, .long v11, .int v12, .int v13, .int v14, .int v15, .ref m16, .ref m17, .ref m18, .ref m19, .ref m20, .ref m21, .ref m22, .ref m23, .int v24, .ref m25, .ref m26, .ref m27, .ref m28, .ref m29, .int v30, .ref m31, .ref m32, .ref m33, .int v34, .int v35, .int v36, .ref m37, .ref m38, .ref m39, .ref m40, .long v41])), (m17, .inl (k 0, 30, .inl f17)), (m18, .inl (k 0, 250, .inl f18)), (m19, .inl (k 0, 40, .inl f19)), (m22, .inl (k 0, 600, .inl f22)), (m25, .inl (k 0, 4, .inl f25))]) [4, 5, 0, 1, 2, 3] (by decide +kernel) rfl
        refine va_callv (va_runV (C := RX12) (As := []) (rest := []) ⟨hx, hb, hml, hown, hts⟩ (c_X12_lays l D k mo 0 m1 m2 m3 m4 m5 v6 v7 v8 v9 v10 v11 v12 v13 v14 v15 m16 m17 m18 m19 m20 m21 m22 m23 v24 m25 m26 m27 m28 m29 v30 m31 m32 m33 v34 v35 v36 m37 m38 m39 m40 v41 f17 f18 f19 f22 f25 H.size (show 0 ≤ v6.toInt ∧ v6.toInt ≤ 1000 from by omega) (show 0 ≤ v24.toInt ∧ v24.toInt ≤ 1023 from by omega) hp_f17_0 hp_f17_1 hp_f17_2 hp_f17_3 hp_f17_4 hp_f17_5 hp_f18_0 hp_f18_1 hp_f18_2 hp_f18_3 hp_f19_0 hp_f19_1 hp_f22_0 hp_f22_1 hp_f22_2 hp_f25_0) (cwV 0 hts (gV tw_7_103 tw_7_105 tw_p_59 tw_1_13 tw_7_106) rfl rfl rfl hdV_X12_lays ⟨Nat.le_of_ble_eq_true rfl, Nat.le_of_ble_eq_true rfl⟩) (cz_V hK hPc hDc hN (ci := 12) (q0 := 0) rfl rfl []) rfl rfl hl.1 rfl (lv_room (Nat.le_of_ble_eq_true rfl)) dX12_bar_34 ⟨Nat.le_of_ble_eq_true rfl, Nat.le_of_ble_eq_true rfl⟩) hS (fun q _ h => hFc q h) hFc (fun uZ tZ H1 locs ht hvm hw hB hz1 hk1 hS => ?_)
        obtain ⟨o_17, o_18⟩ := uZ
        obtain ⟨hP1, hK1, hD1⟩ := hB
        rw [ht] at hP1
        obtain ⟨hP, hD⟩ := va_join (wr := []) (w1 := [(mo, .inr (12, [.int 0, .ref m1, .ref m2, .ref m3, .ref m4, .ref m5, .int v6, .int v7, .int v8, .int v9, .int v10, .long v11, .int v12, .int v13, .int v14, .int v15, .ref m16, .ref m17, .ref m18, .ref m19, .ref m20, .ref m21, .ref m22, .ref m23, .int o_17, .ref m25, .ref m26, .ref m27, .ref m28, .ref m29, .int v30, .ref m31, .ref m32, .ref m33, .int v34, .int v35, .int v36, .ref m37, .ref m38, .ref m39, .ref m40, .long v41])), (m17, .inl (k 0, 30, .inl f17)), (m18, .inl (k 0, 250, .inl f18)), (m19, .inl (k 0, 40, .inl f19)), (m22, .inl (k 0, 600, .inl f22)), (m25, .inl (k 0, 4, .inl o_18))]) hP hD [4, 5, 0, 1, 2, 3] [] rfl rfl (by decide +kernel) (by decide +kernel) hk1 hFc hP1 hD1
        clear hK1 hP1 hD1 hPc hDc hFc
        clear hk1 hz1 ht hvm
        have hP : va_P D vwCl [(mo, .inr (12, [.int 0, .ref m1, .ref m2, .ref m3, .ref m4, .ref m5, .int v6, .int v7, .int v8, .int v9, .int v10, .long v11, .int v12, .int v13, .int v14, .int v15, .ref m16, .ref m17, .ref m18, .ref m19, .ref m20, .ref m21, .ref m22, .ref m23, .int o_17, .ref m25, .ref m26, .ref m27, .ref m28, .ref m29, .int v30, .ref m31, .ref m32, .ref m33, .int v34, .int v35, .int v36, .ref m37, .ref m38, .ref m39, .ref m40, .long v41])), (m17, .inl (k 0, 30, .inl f17)), (m18, .inl (k 0, 250, .inl f18)), (m19, .inl (k 0, 40, .inl f19)), (m22, .inl (k 0, 600, .inl f22)), (m25, .inl (k 0, 4, .inl o_18))] H1 := hP
        have hD : va_D A [(mo, .inr (12, [.int 0, .ref m1, .ref m2, .ref m3, .ref m4, .ref m5, .int v6, .int v7, .int v8, .int v9, .int v10, .long v11, .int v12, .int v13, .int v14, .int v15, .ref m16, .ref m17, .ref m18, .ref m19, .ref m20, .ref m21, .ref m22, .ref m23, .int o_17, .ref m25, .ref m26, .ref m27, .ref m28, .ref m29, .int v30, .ref m31, .ref m32, .ref m33, .int v34, .int v35, .int v36, .ref m37, .ref m38, .ref m39, .ref m40, .long v41])), (m17, .inl (k 0, 30, .inl f17)), (m18, .inl (k 0, 250, .inl f18)), (m19, .inl (k 0, 40, .inl f19)), (m22, .inl (k 0, 600, .inl f22)), (m25, .inl (k 0, 4, .inl o_18))] := hD
        generalize H1 = H at hP hS ⊢
        have hw_19 : (0 ≤ o_17.toInt ∧ o_17.toInt ≤ 1023) ∧ (PR 4 1 0 0 99 o_18) := hw
        obtain ⟨hw_20, hw_21⟩ := hw_19
        clear hw
        refine lv_aload_n hx hb dX12_bar_37 rfl (lv_at hl 0 rfl) ?_
        refine lv_iconst (v := 0) hx hb dX12_bar_38 (by decide) ?_
        refine lv_iload_n hx hb dX12_bar_39 rfl (lv_at hl 1 rfl) ?_
        refine lv_iload_n hx hb dX12_bar_40 rfl (lv_at hl 2 rfl) ?_
        obtain ⟨hPc, hDc, hFc⟩ := sub3 hP hD hS hA (ws' := [(mo, .inr (12, [.int 0, .ref m1, .ref m2, .ref m3, .ref m4, .ref m5, .int v6, .int v7, .int v8, .int v9, .int v10, .long v11, .int v12, .int v13, .int v14, .int v15, .ref m16, .ref m17, .ref m18, .ref m19, .ref m20, .ref m21, .ref m22, .ref m23, .int o_17, .ref m25, .ref m26, .ref m27, .ref m28, .ref m29, .int v30, .ref m31, .ref m32, .ref m33, .int v34, .int v35, .int v36, .ref m37, .ref m38, .ref m39, .ref m40, .long v41])), (m17, .inl (k 0, 30, .inl f17)), (m18, .inl (k 0, 250, .inl f18)), (m22, .inl (k 0, 600, .inl f22))]) [0, 1, 2, 4] (by decide +kernel) rfl
        refine va_callv (va_runV (C := RX12) (As := [.int 0, .int p0, .int p1]) (rest := []) ⟨hx, hb, hml, hown, hts⟩ (c_X12_acts_0 l D k mo p0 p1 0 m1 m2 m3 m4 m5 v6 v7 v8 v9 v10 v11 v12 v13 v14 v15 m16 m17 m18 m19 m20 m21 m22 m23 o_17 m25 m26 m27 m28 m29 v30 m31 m32 m33 v34 v35 v36 m37 m38 m39 m40 v41 f17 f18 f22 H.size (show 0 ≤ p0.toInt ∧ p0.toInt ≤ 9 from by omega) (show 0 ≤ p1.toInt ∧ p1.toInt ≤ 1 from by omega) (show 0 ≤ v6.toInt ∧ v6.toInt ≤ 1000 from by omega) (show 0 ≤ o_17.toInt ∧ o_17.toInt ≤ 1023 from by omega) hp_f17_0 hp_f17_1 hp_f17_2 hp_f17_3 hp_f17_4 hp_f17_5 hp_f18_0 hp_f18_1 hp_f18_2 hp_f18_3 hp_f22_0 hp_f22_1 hp_f22_2 (show (f17 5).toInt ≤ 39 from by omega) hTK) (cwV 3 hts (gV tw_8_208 tw_8_210 tw_p_96 tw_1_13 tw_8_211) rfl rfl rfl hdV_X12_acts ⟨Nat.le_of_ble_eq_true rfl, Nat.le_of_ble_eq_true rfl⟩) (cz_V hK hPc hDc hN (ci := 12) (q0 := 0) rfl rfl [.int 0, .int p0, .int p1]) rfl rfl hl.1 rfl (lv_room (Nat.le_of_ble_eq_true rfl)) dX12_bar_41 ⟨Nat.le_of_ble_eq_true rfl, Nat.le_of_ble_eq_true rfl⟩) hS (fun q _ h => hFc q h) hFc (fun uZ tZ H1 locs ht hvm hw hB hz1 hk1 hS => ?_)
        obtain ⟨o_23, o_24⟩ := uZ
        obtain ⟨hP1, hK1, hD1⟩ := hB
        rw [ht] at hP1
        obtain ⟨hP, hD⟩ := va_join (wr := [(m19, .inl (k 0, 40, .inl f19)), (m25, .inl (k 0, 4, .inl o_18))]) (w1 := [(mo, .inr (12, [.int 0, .ref m1, .ref m2, .ref m3, .ref m4, .ref m5, .int v6, .int v7, .int v8, .int v9, .int v10, .long v11, .int v12, .int v13, .int v14, .int v15, .ref m16, .ref m17, .ref m18, .ref m19, .ref m20, .ref m21, .ref m22, .ref m23, .int o_17, .ref m25, .ref m26, .ref m27, .ref m28, .ref m29, .int v30, .ref m31, .ref m32, .ref m33, .int v34, .int v35, .int v36, .ref m37, .ref m38, .ref m39, .ref m40, .long v41])), (m17, .inl (k 0, 30, .inl o_23)), (m18, .inl (k 0, 250, .inl f18)), (m22, .inl (k 0, 600, .inl o_24))]) hP hD [0, 1, 2, 4] [3, 5] rfl rfl (by decide +kernel) (by decide +kernel) hk1 hFc hP1 hD1
        clear hK1 hP1 hD1 hPc hDc hFc
        clear hk1 hz1 ht hvm
        have hP : va_P D vwCl [(m19, .inl (k 0, 40, .inl f19)), (m25, .inl (k 0, 4, .inl o_18)), (mo, .inr (12, [.int 0, .ref m1, .ref m2, .ref m3, .ref m4, .ref m5, .int v6, .int v7, .int v8, .int v9, .int v10, .long v11, .int v12, .int v13, .int v14, .int v15, .ref m16, .ref m17, .ref m18, .ref m19, .ref m20, .ref m21, .ref m22, .ref m23, .int o_17, .ref m25, .ref m26, .ref m27, .ref m28, .ref m29, .int v30, .ref m31, .ref m32, .ref m33, .int v34, .int v35, .int v36, .ref m37, .ref m38, .ref m39, .ref m40, .long v41])), (m17, .inl (k 0, 30, .inl o_23)), (m18, .inl (k 0, 250, .inl f18)), (m22, .inl (k 0, 600, .inl o_24))] H1 := hP
        have hD : va_D A [(m19, .inl (k 0, 40, .inl f19)), (m25, .inl (k 0, 4, .inl o_18)), (mo, .inr (12, [.int 0, .ref m1, .ref m2, .ref m3, .ref m4, .ref m5, .int v6, .int v7, .int v8, .int v9, .int v10, .long v11, .int v12, .int v13, .int v14, .int v15, .ref m16, .ref m17, .ref m18, .ref m19, .ref m20, .ref m21, .ref m22, .ref m23, .int o_17, .ref m25, .ref m26, .ref m27, .ref m28, .ref m29, .int v30, .ref m31, .ref m32, .ref m33, .int v34, .int v35, .int v36, .ref m37, .ref m38, .ref m39, .ref m40, .long v41])), (m17, .inl (k 0, 30, .inl o_23)), (m18, .inl (k 0, 250, .inl f18)), (m22, .inl (k 0, 600, .inl o_24))] := hD
        generalize H1 = H at hP hS ⊢
        have hw_25 : (PR 30 6 0 0 8 o_23) ∧ (PR 30 6 1 0 10 o_23) ∧ (PR 30 6 2 0 4 o_23) ∧ (PR 30 6 3 0 6 o_23) ∧ (PR 30 6 4 0 2 o_23) ∧ (PR 30 6 5 0 40 o_23) ∧ (PR 600 3 1 0 9 o_24) ∧ (PR 600 3 2 0 99 o_24) ∧ (AK o_24) ∧ (TK o_23 f18) := hw
        obtain ⟨hw_26, hw_27, hw_28, hw_29, hw_30, hw_31, hw_32, hw_33, hw_34, hw_35⟩ := hw_25
        clear hw
        refine lv_aload_n hx hb dX12_bar_44 rfl (lv_at hl 0 rfl) ?_
        refine va_get (D := D) (ci := 12) (v := .int o_17) (C := RX12) (T := TX12) (N := 42) hx hb hts iT_X12 hown hK hP 2 rfl rfl 24 (by decide) (hts _ tw_6_77) (fun _ h9 => h9) rfl dX12_bar_45 ?_
        refine lv_iload_n hx hb dX12_bar_48 rfl (lv_at hl 1 rfl) ?_
        obtain ⟨hPc, hDc, hFc⟩ := sub3 hP hD hS hA (ws' := []) [] (by decide +kernel) rfl
        refine va_calli (va_runS (As := [.int o_17, .int p0]) (rest := []) ⟨hx, hb, hml, hown, hts⟩ (c_X12_isBit l D k o_17 p0 H.size) (va_cwS 2 hts (gS tw_7_107 tw_7_108 tw_1_13 tw_7_109) rfl rfl rfl hdS_X12_isBit ⟨Nat.le_of_ble_eq_true rfl, Nat.le_of_ble_eq_true rfl⟩) (cz_S hK hPc hDc hN [.int o_17, .int p0]) rfl rfl hl.1 rfl (lv_room (Nat.le_of_ble_eq_true rfl)) dX12_bar_49 ⟨Nat.le_of_ble_eq_true rfl, Nat.le_of_ble_eq_true rfl⟩) hS (fun q _ h => hFc q h) hFc (fun r_36 uZ tZ H1 locs ht hvm hw hB hz1 hk1 hS => ?_)
        obtain ⟨hP1, hK1, hD1⟩ := hB
        rw [ht] at hP1
        obtain ⟨hP, hD⟩ := va_join (wr := [(m19, .inl (k 0, 40, .inl f19)), (m25, .inl (k 0, 4, .inl o_18)), (mo, .inr (12, [.int 0, .ref m1, .ref m2, .ref m3, .ref m4, .ref m5, .int v6, .int v7, .int v8, .int v9, .int v10, .long v11, .int v12, .int v13, .int v14, .int v15, .ref m16, .ref m17, .ref m18, .ref m19, .ref m20, .ref m21, .ref m22, .ref m23, .int o_17, .ref m25, .ref m26, .ref m27, .ref m28, .ref m29, .int v30, .ref m31, .ref m32, .ref m33, .int v34, .int v35, .int v36, .ref m37, .ref m38, .ref m39, .ref m40, .long v41])), (m17, .inl (k 0, 30, .inl o_23)), (m18, .inl (k 0, 250, .inl f18)), (m22, .inl (k 0, 600, .inl o_24))]) (w1 := []) hP hD [] [0, 1, 2, 3, 4, 5] rfl rfl (by decide +kernel) (by decide +kernel) hk1 hFc hP1 hD1
        clear hK1 hP1 hD1 hPc hDc hFc
        clear hk1 hz1 ht hvm
        have hP : va_P D vwCl [(m19, .inl (k 0, 40, .inl f19)), (m25, .inl (k 0, 4, .inl o_18)), (mo, .inr (12, [.int 0, .ref m1, .ref m2, .ref m3, .ref m4, .ref m5, .int v6, .int v7, .int v8, .int v9, .int v10, .long v11, .int v12, .int v13, .int v14, .int v15, .ref m16, .ref m17, .ref m18, .ref m19, .ref m20, .ref m21, .ref m22, .ref m23, .int o_17, .ref m25, .ref m26, .ref m27, .ref m28, .ref m29, .int v30, .ref m31, .ref m32, .ref m33, .int v34, .int v35, .int v36, .ref m37, .ref m38, .ref m39, .ref m40, .long v41])), (m17, .inl (k 0, 30, .inl o_23)), (m18, .inl (k 0, 250, .inl f18)), (m22, .inl (k 0, 600, .inl o_24))] H1 := hP
        have hD : va_D A [(m19, .inl (k 0, 40, .inl f19)), (m25, .inl (k 0, 4, .inl o_18)), (mo, .inr (12, [.int 0, .ref m1, .ref m2, .ref m3, .ref m4, .ref m5, .int v6, .int v7, .int v8, .int v9, .int v10, .long v11, .int v12, .int v13, .int v14, .int v15, .ref m16, .ref m17, .ref m18, .ref m19, .ref m20, .ref m21, .ref m22, .ref m23, .int o_17, .ref m25, .ref m26, .ref m27, .ref m28, .ref m29, .int v30, .ref m31, .ref m32, .ref m33, .int v34, .int v35, .int v36, .ref m37, .ref m38, .ref m39, .ref m40, .long v41])), (m17, .inl (k 0, 30, .inl o_23)), (m18, .inl (k 0, 250, .inl f18)), (m22, .inl (k 0, 600, .inl o_24))] := hD
        generalize H1 = H at hP hS ⊢
        have hw_37 : (0 ≤ r_36.toInt ∧ r_36.toInt ≤ 1) ∧ (r_36 = bitOf o_17 p0) := hw
        obtain ⟨hw_38, hw_39⟩ := hw_37
        clear hw
        refine lv_if_eq (tgt := 59) hx hb dX12_bar_52 (by decide) (fun h_40 => ?_) (fun h_40 => ?_)
        · skip
          have zh_40 : r_36.toInt = 0 := z_eq h_40
          refine lv_iconst (v := 1) hx hb dX12_bar_59 (by decide) ?_
          obtain ⟨hP9, hD9⟩ := sub2 hP hD (ws' := [(mo, .inr (12, [.int 0, .ref m1, .ref m2, .ref m3, .ref m4, .ref m5, .int v6, .int v7, .int v8, .int v9, .int v10, .long v11, .int v12, .int v13, .int v14, .int v15, .ref m16, .ref m17, .ref m18, .ref m19, .ref m20, .ref m21, .ref m22, .ref m23, .int o_17, .ref m25, .ref m26, .ref m27, .ref m28, .ref m29, .int v30, .ref m31, .ref m32, .ref m33, .int v34, .int v35, .int v36, .ref m37, .ref m38, .ref m39, .ref m40, .long v41])), (m17, .inl (k 0, 30, .inl o_23)), (m18, .inl (k 0, 250, .inl f18)), (m19, .inl (k 0, 40, .inl f19)), (m22, .inl (k 0, 600, .inl o_24)), (m25, .inl (k 0, 4, .inl o_18))]) [2, 3, 4, 0, 5, 1] (by decide +kernel) rfl
          exact W.iret (v := 1) hx hb hr (fun tZ ht hW => ⟨⟨1, (0, o_17, o_23, o_24, o_18), rfl, ⟨(show (-5) ≤ 1 ∧ 1 ≤ 1 from by omega), (show 0 ≤ 0 ∧ 0 ≤ 0 from by omega), (show 0 ≤ o_17.toInt ∧ o_17.toInt ≤ 1023 from by omega), hw_26, hw_27, hw_28, hw_29, hw_30, hw_31, hw_32, hw_33, hw_34, hw_21, hw_35⟩, by rw [ht]; exact hP9, va_K.moved hW.alike hK, hD9⟩, hS.F ht⟩) hS.2.2 dX12_bar_60
        · skip
          have zh_40 : ¬ r_36.toInt = 0 := z_ne h_40
          refine lv_iconst (v := 0) hx hb dX12_bar_55 (by decide) ?_
          refine lv_goto (tgt := 60) hx hb dX12_bar_56 (by decide) ?_
          obtain ⟨hP9, hD9⟩ := sub2 hP hD (ws' := [(mo, .inr (12, [.int 0, .ref m1, .ref m2, .ref m3, .ref m4, .ref m5, .int v6, .int v7, .int v8, .int v9, .int v10, .long v11, .int v12, .int v13, .int v14, .int v15, .ref m16, .ref m17, .ref m18, .ref m19, .ref m20, .ref m21, .ref m22, .ref m23, .int o_17, .ref m25, .ref m26, .ref m27, .ref m28, .ref m29, .int v30, .ref m31, .ref m32, .ref m33, .int v34, .int v35, .int v36, .ref m37, .ref m38, .ref m39, .ref m40, .long v41])), (m17, .inl (k 0, 30, .inl o_23)), (m18, .inl (k 0, 250, .inl f18)), (m19, .inl (k 0, 40, .inl f19)), (m22, .inl (k 0, 600, .inl o_24)), (m25, .inl (k 0, 4, .inl o_18))]) [2, 3, 4, 0, 5, 1] (by decide +kernel) rfl
          exact W.iret (v := 0) hx hb hr (fun tZ ht hW => ⟨⟨0, (0, o_17, o_23, o_24, o_18), rfl, ⟨(show (-5) ≤ 0 ∧ 0 ≤ 1 from by omega), (show 0 ≤ 0 ∧ 0 ≤ 0 from by omega), (show 0 ≤ o_17.toInt ∧ o_17.toInt ≤ 1023 from by omega), hw_26, hw_27, hw_28, hw_29, hw_30, hw_31, hw_32, hw_33, hw_34, hw_21, hw_35⟩, by rw [ht]; exact hP9, va_K.moved hW.alike hK, hD9⟩, hS.F ht⟩) hS.2.2 dX12_bar_60
      · skip
        have zh_15 : ¬ r_11.toInt = 0 := z_ne h_15
        refine lv_bipush (v := (-5)) hx hb dX12_bar_30 (by decide) ?_
        obtain ⟨hP9, hD9⟩ := sub2 hP hD (ws' := [(mo, .inr (12, [.int 0, .ref m1, .ref m2, .ref m3, .ref m4, .ref m5, .int v6, .int v7, .int v8, .int v9, .int v10, .long v11, .int v12, .int v13, .int v14, .int v15, .ref m16, .ref m17, .ref m18, .ref m19, .ref m20, .ref m21, .ref m22, .ref m23, .int v24, .ref m25, .ref m26, .ref m27, .ref m28, .ref m29, .int v30, .ref m31, .ref m32, .ref m33, .int v34, .int v35, .int v36, .ref m37, .ref m38, .ref m39, .ref m40, .long v41])), (m17, .inl (k 0, 30, .inl f17)), (m18, .inl (k 0, 250, .inl f18)), (m19, .inl (k 0, 40, .inl f19)), (m22, .inl (k 0, 600, .inl f22)), (m25, .inl (k 0, 4, .inl f25))]) [4, 5, 0, 1, 2, 3] (by decide +kernel) rfl
        exact W.iret (v := (-5)) hx hb hr (fun tZ ht hW => ⟨⟨(-5), (0, v24, f17, f22, f25), rfl, ⟨(show (-5) ≤ (-5) ∧ (-5) ≤ 1 from by omega), (show 0 ≤ 0 ∧ 0 ≤ 0 from by omega), (show 0 ≤ v24.toInt ∧ v24.toInt ≤ 1023 from by omega), hp_f17_0, hp_f17_1, hp_f17_2, hp_f17_3, hp_f17_4, hp_f17_5, hp_f22_0, hp_f22_1, hp_f22_2, hp_f25_0, hTK⟩, by rw [ht]; exact hP9, va_K.moved hW.alike hK, hD9⟩, hS.F ht⟩) hS.2.2 dX12_bar_32
    · skip
      have zh_10 : r_6.toInt = 0 := z_eq h_10
      refine lv_bipush (v := (-2)) hx hb dX12_bar_20 (by decide) ?_
      obtain ⟨hP9, hD9⟩ := sub2 hP hD (ws' := [(mo, .inr (12, [.int 0, .ref m1, .ref m2, .ref m3, .ref m4, .ref m5, .int v6, .int v7, .int v8, .int v9, .int v10, .long v11, .int v12, .int v13, .int v14, .int v15, .ref m16, .ref m17, .ref m18, .ref m19, .ref m20, .ref m21, .ref m22, .ref m23, .int v24, .ref m25, .ref m26, .ref m27, .ref m28, .ref m29, .int v30, .ref m31, .ref m32, .ref m33, .int v34, .int v35, .int v36, .ref m37, .ref m38, .ref m39, .ref m40, .long v41])), (m17, .inl (k 0, 30, .inl f17)), (m18, .inl (k 0, 250, .inl f18)), (m19, .inl (k 0, 40, .inl f19)), (m22, .inl (k 0, 600, .inl f22)), (m25, .inl (k 0, 4, .inl f25))]) [4, 5, 0, 1, 2, 3] (by decide +kernel) rfl
      exact W.iret (v := (-2)) hx hb hr (fun tZ ht hW => ⟨⟨(-2), (0, v24, f17, f22, f25), rfl, ⟨(show (-5) ≤ (-2) ∧ (-2) ≤ 1 from by omega), (show 0 ≤ 0 ∧ 0 ≤ 0 from by omega), (show 0 ≤ v24.toInt ∧ v24.toInt ≤ 1023 from by omega), hp_f17_0, hp_f17_1, hp_f17_2, hp_f17_3, hp_f17_4, hp_f17_5, hp_f22_0, hp_f22_1, hp_f22_2, hp_f25_0, hTK⟩, by rw [ht]; exact hP9, va_K.moved hW.alike hK, hD9⟩, hS.F ht⟩) hS.2.2 dX12_bar_22
set_option maxHeartbeats 4000000 in
set_option maxRecDepth 100000 in
theorem c_X12_holds (l : Launch) (D : va_G) (k : Nat → ClassId) (mo : Nat) (p0 : Int32) (p1 : Int32) (v0 : Int32) (m1 : Nat) (m2 : Nat) (m3 : Nat) (m4 : Nat) (m5 : Nat) (v6 : Int32) (v7 : Int32) (v8 : Int32) (v9 : Int32) (v10 : Int32) (v11 : Int64) (v12 : Int32) (v13 : Int32) (v14 : Int32) (v15 : Int32) (m16 : Nat) (m17 : Nat) (m18 : Nat) (m19 : Nat) (m20 : Nat) (m21 : Nat) (m22 : Nat) (m23 : Nat) (v24 : Int32) (m25 : Nat) (m26 : Nat) (m27 : Nat) (m28 : Nat) (m29 : Nat) (v30 : Int32) (m31 : Nat) (m32 : Nat) (m33 : Nat) (v34 : Int32) (v35 : Int32) (v36 : Int32) (m37 : Nat) (m38 : Nat) (m39 : Nat) (m40 : Nat) (v41 : Int64) (f17 : Nat → Int32) (f18 : Nat → Int32) (f19 : Nat → Int32) (f22 : Nat → Int32) (f25 : Nat → Int32) (sz : Nat) (h_v6 : 0 ≤ v6.toInt ∧ v6.toInt ≤ 1000) (h_v24 : 0 ≤ v24.toInt ∧ v24.toInt ≤ 1023) (hp_f17_0 : PR 30 6 0 0 8 f17) (hp_f17_1 : PR 30 6 1 0 10 f17) (hp_f17_2 : PR 30 6 2 0 4 f17) (hp_f17_3 : PR 30 6 3 0 6 f17) (hp_f17_4 : PR 30 6 4 0 2 f17) (hp_f17_5 : PR 30 6 5 0 40 f17) (hp_f18_0 : PR 250 5 0 0 7 f18) (hp_f18_1 : PR 250 5 1 0 7 f18) (hp_f18_2 : PR 250 5 2 0 60 f18) (hp_f18_3 : PR 250 5 3 0 10 f18) (hp_f19_0 : PR 40 2 0 0 7 f19) (hp_f19_1 : PR 40 2 1 0 99 f19) (hp_f22_0 : PR 600 3 1 0 9 f22) (hp_f22_1 : PR 600 3 2 0 99 f22) (hp_f22_2 : AK f22) (hp_f25_0 : PR 4 1 0 0 99 f25) (hTK : TK f17 f18) : Met l yX12_holds (ww yX12_holds cX12_holds 3 (some .int)) ({ frames := 2, cells := 0, slots := 0, locals := 46 }) (Pre0 D k [(mo, .inr (12, [.int v0, .ref m1, .ref m2, .ref m3, .ref m4, .ref m5, .int v6, .int v7, .int v8, .int v9, .int v10, .long v11, .int v12, .int v13, .int v14, .int v15, .ref m16, .ref m17, .ref m18, .ref m19, .ref m20, .ref m21, .ref m22, .ref m23, .int v24, .ref m25, .ref m26, .ref m27, .ref m28, .ref m29, .int v30, .ref m31, .ref m32, .ref m33, .int v34, .int v35, .int v36, .ref m37, .ref m38, .ref m39, .ref m40, .long v41])), (m17, .inl (k 0, 30, .inl f17)), (m18, .inl (k 0, 250, .inl f18)), (m19, .inl (k 0, 40, .inl f19)), (m22, .inl (k 0, 600, .inl f22)), (m25, .inl (k 0, 4, .inl f25))] sz [.ref mo, .int p0, .int p1]) (va_Qi (fun (r : Int32) (u : Int32 × Int32 × (Nat → Int32) × (Nat → Int32) × (Nat → Int32)) => match u with | (v0z, v24z, f17z, f22z, f25z) => ((-5) ≤ r.toInt ∧ r.toInt ≤ 99) ∧ (0 ≤ v0z.toInt ∧ v0z.toInt ≤ 0) ∧ (0 ≤ v24z.toInt ∧ v24z.toInt ≤ 1023) ∧ (PR 30 6 0 0 8 f17z) ∧ (PR 30 6 1 0 10 f17z) ∧ (PR 30 6 2 0 4 f17z) ∧ (PR 30 6 3 0 6 f17z) ∧ (PR 30 6 4 0 2 f17z) ∧ (PR 30 6 5 0 40 f17z) ∧ (PR 600 3 1 0 9 f22z) ∧ (PR 600 3 2 0 99 f22z) ∧ (AK f22z) ∧ (PR 4 1 0 0 99 f25z) ∧ (TK f17z f18)) (fun (u : Int32 × Int32 × (Nat → Int32) × (Nat → Int32) × (Nat → Int32)) tZ => match u with | (v0z, v24z, f17z, f22z, f25z) => Bw D k (va_A [(mo, .inr (12, [.int v0, .ref m1, .ref m2, .ref m3, .ref m4, .ref m5, .int v6, .int v7, .int v8, .int v9, .int v10, .long v11, .int v12, .int v13, .int v14, .int v15, .ref m16, .ref m17, .ref m18, .ref m19, .ref m20, .ref m21, .ref m22, .ref m23, .int v24, .ref m25, .ref m26, .ref m27, .ref m28, .ref m29, .int v30, .ref m31, .ref m32, .ref m33, .int v34, .int v35, .int v36, .ref m37, .ref m38, .ref m39, .ref m40, .long v41])), (m17, .inl (k 0, 30, .inl f17)), (m18, .inl (k 0, 250, .inl f18)), (m19, .inl (k 0, 40, .inl f19)), (m22, .inl (k 0, 600, .inl f22)), (m25, .inl (k 0, 4, .inl f25))] sz) [(mo, .inr (12, [.int v0z, .ref m1, .ref m2, .ref m3, .ref m4, .ref m5, .int v6, .int v7, .int v8, .int v9, .int v10, .long v11, .int v12, .int v13, .int v14, .int v15, .ref m16, .ref m17, .ref m18, .ref m19, .ref m20, .ref m21, .ref m22, .ref m23, .int v24z, .ref m25, .ref m26, .ref m27, .ref m28, .ref m29, .int v30, .ref m31, .ref m32, .ref m33, .int v34, .int v35, .int v36, .ref m37, .ref m38, .ref m39, .ref m40, .long v41])), (m17, .inl (k 0, 30, .inl f17z)), (m18, .inl (k 0, 250, .inl f18)), (m19, .inl (k 0, 40, .inl f19)), (m22, .inl (k 0, 600, .inl f22z)), (m25, .inl (k 0, 4, .inl f25z))] tZ) (va_A [(mo, .inr (12, [.int v0, .ref m1, .ref m2, .ref m3, .ref m4, .ref m5, .int v6, .int v7, .int v8, .int v9, .int v10, .long v11, .int v12, .int v13, .int v14, .int v15, .ref m16, .ref m17, .ref m18, .ref m19, .ref m20, .ref m21, .ref m22, .ref m23, .int v24, .ref m25, .ref m26, .ref m27, .ref m28, .ref m29, .int v30, .ref m31, .ref m32, .ref m33, .int v34, .int v35, .int v36, .ref m37, .ref m38, .ref m39, .ref m40, .long v41])), (m17, .inl (k 0, 30, .inl f17)), (m18, .inl (k 0, 250, .inl f18)), (m19, .inl (k 0, 40, .inl f19)), (m22, .inl (k 0, 600, .inl f22)), (m25, .inl (k 0, 4, .inl f25))] sz)) 0 0 (va_A [(mo, .inr (12, [.int v0, .ref m1, .ref m2, .ref m3, .ref m4, .ref m5, .int v6, .int v7, .int v8, .int v9, .int v10, .long v11, .int v12, .int v13, .int v14, .int v15, .ref m16, .ref m17, .ref m18, .ref m19, .ref m20, .ref m21, .ref m22, .ref m23, .int v24, .ref m25, .ref m26, .ref m27, .ref m28, .ref m29, .int v30, .ref m31, .ref m32, .ref m33, .int v34, .int v35, .int v36, .ref m37, .ref m38, .ref m39, .ref m40, .long v41])), (m17, .inl (k 0, 30, .inl f17)), (m18, .inl (k 0, 250, .inl f18)), (m19, .inl (k 0, 40, .inl f19)), (m22, .inl (k 0, 600, .inl f22)), (m25, .inl (k 0, 4, .inl f25))] sz) := by
  refine Met.ofW (cc := cX12_holds) (maxL := 3) (ret := (some .int)) (by decide +kernel) rfl ?_
  intro p e s m args below meth c s₁ B hml hv
  obtain ⟨rfl, hsz, hP, hK, hD0, hN⟩ := hv
  have hx := B.exec
  have hb := B.bytes
  have hr := B.returns
  have hts : ∀ w ∈ TT, w.before _ s = true := fun w h => atoms_spec (ws := ww yX12_holds cX12_holds 3 (some .int)) B.pre w (List.mem_cons_of_mem _ h)
  have hown : s.vm.findClass RX12 = some m.cls := findClass_of_methodNamed B.named
  have hlocks := B.notSynchronized
  subst hsz
  have hD := hD0.self (sz := s.heap.size)
  generalize hAe : va_A [(mo, .inr (12, [.int v0, .ref m1, .ref m2, .ref m3, .ref m4, .ref m5, .int v6, .int v7, .int v8, .int v9, .int v10, .long v11, .int v12, .int v13, .int v14, .int v15, .ref m16, .ref m17, .ref m18, .ref m19, .ref m20, .ref m21, .ref m22, .ref m23, .int v24, .ref m25, .ref m26, .ref m27, .ref m28, .ref m29, .int v30, .ref m31, .ref m32, .ref m33, .int v34, .int v35, .int v36, .ref m37, .ref m38, .ref m39, .ref m40, .long v41])), (m17, .inl (k 0, 30, .inl f17)), (m18, .inl (k 0, 250, .inl f18)), (m19, .inl (k 0, 40, .inl f19)), (m22, .inl (k 0, 600, .inl f22)), (m25, .inl (k 0, 4, .inl f25))] s.heap.size = A at hD ⊢
  have hA : ∀ q : Nat, s.heap.size ≤ q → A q := fun q h => by rw [← hAe]; exact Or.inr h
  have hS : va_S A s.heap s.heap [] := va_S.rf
  have hl := lv_entry ([.ref mo, .int p0, .int p1]) (n := 3) (Nat.le_of_ble_eq_true rfl)
  rw [lg_entry_eq]
  generalize (lg_sl ([.ref mo, .int p0, .int p1]) ++ List.replicate (3 - (lg_sl ([.ref mo, .int p0, .int p1])).length) Slot.unset).toArray = ls at hl ⊢
  have hl : lv_has ls 3 [(0, .ref mo), (1, .int p0), (2, .int p1)] := hl
  refine lv_aload_n hx hb dX12_holds_0 rfl (lv_at hl 0 rfl) ?_
  refine lv_iconst (v := 0) hx hb dX12_holds_1 (by decide) ?_
  refine va_put (D := D) (ci := 12) (v := .int 0) (ty := tyX12 0) (C := RX12) (T := TX12) (N := 42) hx hb hts iT_X12 tyX12 tyX12_ok nmX12 hown hK hP hD hS 0 rfl rfl 0 (by decide) (hts _ tw_6_53) (fun _ h9 => h9) rfl (tyX12_ok 0 (by decide)) rfl rfl (Nat.le_of_ble_eq_true rfl) dX12_holds_2 (fun H locs hP hD hS => ?_)
  have hP : va_P D vwCl [(mo, .inr (12, [.int 0, .ref m1, .ref m2, .ref m3, .ref m4, .ref m5, .int v6, .int v7, .int v8, .int v9, .int v10, .long v11, .int v12, .int v13, .int v14, .int v15, .ref m16, .ref m17, .ref m18, .ref m19, .ref m20, .ref m21, .ref m22, .ref m23, .int v24, .ref m25, .ref m26, .ref m27, .ref m28, .ref m29, .int v30, .ref m31, .ref m32, .ref m33, .int v34, .int v35, .int v36, .ref m37, .ref m38, .ref m39, .ref m40, .long v41])), (m17, .inl (k 0, 30, .inl f17)), (m18, .inl (k 0, 250, .inl f18)), (m19, .inl (k 0, 40, .inl f19)), (m22, .inl (k 0, 600, .inl f22)), (m25, .inl (k 0, 4, .inl f25))] H := hP
  have hD : va_D A [(mo, .inr (12, [.int 0, .ref m1, .ref m2, .ref m3, .ref m4, .ref m5, .int v6, .int v7, .int v8, .int v9, .int v10, .long v11, .int v12, .int v13, .int v14, .int v15, .ref m16, .ref m17, .ref m18, .ref m19, .ref m20, .ref m21, .ref m22, .ref m23, .int v24, .ref m25, .ref m26, .ref m27, .ref m28, .ref m29, .int v30, .ref m31, .ref m32, .ref m33, .int v34, .int v35, .int v36, .ref m37, .ref m38, .ref m39, .ref m40, .long v41])), (m17, .inl (k 0, 30, .inl f17)), (m18, .inl (k 0, 250, .inl f18)), (m19, .inl (k 0, 40, .inl f19)), (m22, .inl (k 0, 600, .inl f22)), (m25, .inl (k 0, 4, .inl f25))] := hD
  refine lv_aload_n hx hb dX12_holds_5 rfl (lv_at hl 0 rfl) ?_
  refine lv_iload_n hx hb dX12_holds_6 rfl (lv_at hl 1 rfl) ?_
  obtain ⟨hPc, hDc, hFc⟩ := sub3 hP hD hS hA (ws' := [(mo, .inr (12, [.int 0, .ref m1, .ref m2, .ref m3, .ref m4, .ref m5, .int v6, .int v7, .int v8, .int v9, .int v10, .long v11, .int v12, .int v13, .int v14, .int v15, .ref m16, .ref m17, .ref m18, .ref m19, .ref m20, .ref m21, .ref m22, .ref m23, .int v24, .ref m25, .ref m26, .ref m27, .ref m28, .ref m29, .int v30, .ref m31, .ref m32, .ref m33, .int v34, .int v35, .int v36, .ref m37, .ref m38, .ref m39, .ref m40, .long v41])), (m17, .inl (k 0, 30, .inl f17))]) [0, 1] (by decide +kernel) rfl
  refine va_calli (va_runV (C := RX12) (As := [.int p0]) (rest := []) ⟨hx, hb, hml, hown, hts⟩ (c_X12_isGate l D k mo p0 0 m1 m2 m3 m4 m5 v6 v7 v8 v9 v10 v11 v12 v13 v14 v15 m16 m17 m18 m19 m20 m21 m22 m23 v24 m25 m26 m27 m28 m29 v30 m31 m32 m33 v34 v35 v36 m37 m38 m39 m40 v41 f17 H.size (show 0 ≤ v6.toInt ∧ v6.toInt ≤ 1000 from by omega) (show 0 ≤ v24.toInt ∧ v24.toInt ≤ 1023 from by omega) hp_f17_0 hp_f17_1 hp_f17_2 hp_f17_3 hp_f17_4 hp_f17_5) (cwV 1 hts (gV tw_7_114 tw_7_116 tw_p_60 tw_1_13 tw_7_117) rfl rfl rfl hdV_X12_isGate ⟨Nat.le_of_ble_eq_true rfl, Nat.le_of_ble_eq_true rfl⟩) (cz_V hK hPc hDc hN (ci := 12) (q0 := 0) rfl rfl [.int p0]) rfl rfl hl.1 rfl (lv_room (Nat.le_of_ble_eq_true rfl)) dX12_holds_7 ⟨Nat.le_of_ble_eq_true rfl, Nat.le_of_ble_eq_true rfl⟩) hS (fun q _ h => hFc q h) hFc (fun r_1 uZ tZ H1 locs ht hvm hw hB hz1 hk1 hS => ?_)
  obtain ⟨hP1, hK1, hD1⟩ := hB
  rw [ht] at hP1
  obtain ⟨hP, hD⟩ := va_join (wr := [(m18, .inl (k 0, 250, .inl f18)), (m19, .inl (k 0, 40, .inl f19)), (m22, .inl (k 0, 600, .inl f22)), (m25, .inl (k 0, 4, .inl f25))]) (w1 := [(mo, .inr (12, [.int 0, .ref m1, .ref m2, .ref m3, .ref m4, .ref m5, .int v6, .int v7, .int v8, .int v9, .int v10, .long v11, .int v12, .int v13, .int v14, .int v15, .ref m16, .ref m17, .ref m18, .ref m19, .ref m20, .ref m21, .ref m22, .ref m23, .int v24, .ref m25, .ref m26, .ref m27, .ref m28, .ref m29, .int v30, .ref m31, .ref m32, .ref m33, .int v34, .int v35, .int v36, .ref m37, .ref m38, .ref m39, .ref m40, .long v41])), (m17, .inl (k 0, 30, .inl f17))]) hP hD [0, 1] [2, 3, 4, 5] rfl rfl (by decide +kernel) (by decide +kernel) hk1 hFc hP1 hD1
  clear hK1 hP1 hD1 hPc hDc hFc
  clear hk1 hz1 ht hvm
  have hP : va_P D vwCl [(m18, .inl (k 0, 250, .inl f18)), (m19, .inl (k 0, 40, .inl f19)), (m22, .inl (k 0, 600, .inl f22)), (m25, .inl (k 0, 4, .inl f25)), (mo, .inr (12, [.int 0, .ref m1, .ref m2, .ref m3, .ref m4, .ref m5, .int v6, .int v7, .int v8, .int v9, .int v10, .long v11, .int v12, .int v13, .int v14, .int v15, .ref m16, .ref m17, .ref m18, .ref m19, .ref m20, .ref m21, .ref m22, .ref m23, .int v24, .ref m25, .ref m26, .ref m27, .ref m28, .ref m29, .int v30, .ref m31, .ref m32, .ref m33, .int v34, .int v35, .int v36, .ref m37, .ref m38, .ref m39, .ref m40, .long v41])), (m17, .inl (k 0, 30, .inl f17))] H1 := hP
  have hD : va_D A [(m18, .inl (k 0, 250, .inl f18)), (m19, .inl (k 0, 40, .inl f19)), (m22, .inl (k 0, 600, .inl f22)), (m25, .inl (k 0, 4, .inl f25)), (mo, .inr (12, [.int 0, .ref m1, .ref m2, .ref m3, .ref m4, .ref m5, .int v6, .int v7, .int v8, .int v9, .int v10, .long v11, .int v12, .int v13, .int v14, .int v15, .ref m16, .ref m17, .ref m18, .ref m19, .ref m20, .ref m21, .ref m22, .ref m23, .int v24, .ref m25, .ref m26, .ref m27, .ref m28, .ref m29, .int v30, .ref m31, .ref m32, .ref m33, .int v34, .int v35, .int v36, .ref m37, .ref m38, .ref m39, .ref m40, .long v41])), (m17, .inl (k 0, 30, .inl f17))] := hD
  generalize H1 = H at hP hS ⊢
  have hw_2 : (0 ≤ r_1.toInt ∧ r_1.toInt ≤ 1) ∧ ((r_1.toInt = 1 ∧ 0 ≤ p0.toInt ∧ p0.toInt ≤ 3) ∨ r_1.toInt = 0) := hw
  obtain ⟨hw_3, hw_4⟩ := hw_2
  clear hw
  refine lv_if_eq (tgt := 25) hx hb dX12_holds_10 (by decide) (fun h_5 => ?_) (fun h_5 => ?_)
  · skip
    have zh_5 : r_1.toInt = 0 := z_eq h_5
    refine lv_bipush (v := (-2)) hx hb dX12_holds_25 (by decide) ?_
    obtain ⟨hP9, hD9⟩ := sub2 hP hD (ws' := [(mo, .inr (12, [.int 0, .ref m1, .ref m2, .ref m3, .ref m4, .ref m5, .int v6, .int v7, .int v8, .int v9, .int v10, .long v11, .int v12, .int v13, .int v14, .int v15, .ref m16, .ref m17, .ref m18, .ref m19, .ref m20, .ref m21, .ref m22, .ref m23, .int v24, .ref m25, .ref m26, .ref m27, .ref m28, .ref m29, .int v30, .ref m31, .ref m32, .ref m33, .int v34, .int v35, .int v36, .ref m37, .ref m38, .ref m39, .ref m40, .long v41])), (m17, .inl (k 0, 30, .inl f17)), (m18, .inl (k 0, 250, .inl f18)), (m19, .inl (k 0, 40, .inl f19)), (m22, .inl (k 0, 600, .inl f22)), (m25, .inl (k 0, 4, .inl f25))]) [4, 5, 0, 1, 2, 3] (by decide +kernel) rfl
    exact W.iret (v := (-2)) hx hb hr (fun tZ ht hW => ⟨⟨(-2), (0, v24, f17, f22, f25), rfl, ⟨(show (-5) ≤ (-2) ∧ (-2) ≤ 99 from by omega), (show 0 ≤ 0 ∧ 0 ≤ 0 from by omega), (show 0 ≤ v24.toInt ∧ v24.toInt ≤ 1023 from by omega), hp_f17_0, hp_f17_1, hp_f17_2, hp_f17_3, hp_f17_4, hp_f17_5, hp_f22_0, hp_f22_1, hp_f22_2, hp_f25_0, hTK⟩, by rw [ht]; exact hP9, va_K.moved hW.alike hK, hD9⟩, hS.F ht⟩) hS.2.2 dX12_holds_27
  · skip
    have zh_5 : ¬ r_1.toInt = 0 := z_ne h_5
    refine lv_iload_n hx hb dX12_holds_13 rfl (lv_at hl 2 rfl) ?_
    refine lv_i2l (v := p1.toInt64) hx hb dX12_holds_14 rfl ?_
    refine lv_lconst (v := 0) hx hb dX12_holds_15 (by decide) ?_
    refine lv_ldc2 (v := 99) hx hb hown (hts _ tw_8_141) dX12_holds_16 ?_
    obtain ⟨hPc, hDc, hFc⟩ := sub3 hP hD hS hA (ws' := []) [] (by decide +kernel) rfl
    refine va_calli (va_runS (As := [.long p1.toInt64, .long 0, .long 99]) (rest := []) ⟨hx, hb, hml, hown, hts⟩ (c_X12_in l D k p1.toInt64 0 99 H.size) (va_cwS 3 hts (gS tw_6_188 tw_6_189 tw_1_13 tw_6_190) rfl rfl rfl hdS_X12_in ⟨Nat.le_of_ble_eq_true rfl, Nat.le_of_ble_eq_true rfl⟩) (cz_S hK hPc hDc hN [.long p1.toInt64, .long 0, .long 99]) rfl rfl hl.1 rfl (lv_room (Nat.le_of_ble_eq_true rfl)) dX12_holds_19 ⟨Nat.le_of_ble_eq_true rfl, Nat.le_of_ble_eq_true rfl⟩) hS (fun q _ h => hFc q h) hFc (fun r_6 uZ tZ H1 locs ht hvm hw hB hz1 hk1 hS => ?_)
    obtain ⟨hP1, hK1, hD1⟩ := hB
    rw [ht] at hP1
    obtain ⟨hP, hD⟩ := va_join (wr := [(m18, .inl (k 0, 250, .inl f18)), (m19, .inl (k 0, 40, .inl f19)), (m22, .inl (k 0, 600, .inl f22)), (m25, .inl (k 0, 4, .inl f25)), (mo, .inr (12, [.int 0, .ref m1, .ref m2, .ref m3, .ref m4, .ref m5, .int v6, .int v7, .int v8, .int v9, .int v10, .long v11, .int v12, .int v13, .int v14, .int v15, .ref m16, .ref m17, .ref m18, .ref m19, .ref m20, .ref m21, .ref m22, .ref m23, .int v24, .ref m25, .ref m26, .ref m27, .ref m28, .ref m29, .int v30, .ref m31, .ref m32, .ref m33, .int v34, .int v35, .int v36, .ref m37, .ref m38, .ref m39, .ref m40, .long v41])), (m17, .inl (k 0, 30, .inl f17))]) (w1 := []) hP hD [] [0, 1, 2, 3, 4, 5] rfl rfl (by decide +kernel) (by decide +kernel) hk1 hFc hP1 hD1
    clear hK1 hP1 hD1 hPc hDc hFc
    clear hk1 hz1 ht hvm
    have hP : va_P D vwCl [(m18, .inl (k 0, 250, .inl f18)), (m19, .inl (k 0, 40, .inl f19)), (m22, .inl (k 0, 600, .inl f22)), (m25, .inl (k 0, 4, .inl f25)), (mo, .inr (12, [.int 0, .ref m1, .ref m2, .ref m3, .ref m4, .ref m5, .int v6, .int v7, .int v8, .int v9, .int v10, .long v11, .int v12, .int v13, .int v14, .int v15, .ref m16, .ref m17, .ref m18, .ref m19, .ref m20, .ref m21, .ref m22, .ref m23, .int v24, .ref m25, .ref m26, .ref m27, .ref m28, .ref m29, .int v30, .ref m31, .ref m32, .ref m33, .int v34, .int v35, .int v36, .ref m37, .ref m38, .ref m39, .ref m40, .long v41])), (m17, .inl (k 0, 30, .inl f17))] H1 := hP
    have hD : va_D A [(m18, .inl (k 0, 250, .inl f18)), (m19, .inl (k 0, 40, .inl f19)), (m22, .inl (k 0, 600, .inl f22)), (m25, .inl (k 0, 4, .inl f25)), (mo, .inr (12, [.int 0, .ref m1, .ref m2, .ref m3, .ref m4, .ref m5, .int v6, .int v7, .int v8, .int v9, .int v10, .long v11, .int v12, .int v13, .int v14, .int v15, .ref m16, .ref m17, .ref m18, .ref m19, .ref m20, .ref m21, .ref m22, .ref m23, .int v24, .ref m25, .ref m26, .ref m27, .ref m28, .ref m29, .int v30, .ref m31, .ref m32, .ref m33, .int v34, .int v35, .int v36, .ref m37, .ref m38, .ref m39, .ref m40, .long v41])), (m17, .inl (k 0, 30, .inl f17))] := hD
    generalize H1 = H at hP hS ⊢
    have hw_7 : (0 ≤ r_6.toInt ∧ r_6.toInt ≤ 1) ∧ ((r_6.toInt = 1 ∧ 0 ≤ p1.toInt64.toInt ∧ p1.toInt64.toInt ≤ 99) ∨ (r_6.toInt = 0 ∧ (p1.toInt64.toInt < 0 ∨ 99 < p1.toInt64.toInt))) := hw
    obtain ⟨hw_8, hw_9⟩ := hw_7
    clear hw
    simp only [Int32.toInt_toInt64] at hw_8 hw_9
    refine lv_if_ne (tgt := 28) hx hb dX12_holds_22 (by decide) (fun h_10 => ?_) (fun h_10 => ?_)
    · skip
      have zh_10 : ¬ r_6.toInt = 0 := z_ne h_10
      refine lv_aload_n hx hb dX12_holds_28 rfl (lv_at hl 0 rfl) ?_
      obtain ⟨hPc, hDc, hFc⟩ := sub3 hP hD hS hA (ws' := [(mo, .inr (12, [.int 0, .ref m1, .ref m2, .ref m3, .ref m4, .ref m5, .int v6, .int v7, .int v8, .int v9, .int v10, .long v11, .int v12, .int v13, .int v14, .int v15, .ref m16, .ref m17, .ref m18, .ref m19, .ref m20, .ref m21, .ref m22, .ref m23, .int v24, .ref m25, .ref m26, .ref m27, .ref m28, .ref m29, .int v30, .ref m31, .ref m32, .ref m33, .int v34, .int v35, .int v36, .ref m37, .ref m38, .ref m39, .ref m40, .long v41])), (m17, .inl (k 0, 30, .inl f17))]) [4, 5] (by decide +kernel) rfl
      refine va_calli (va_runV (C := RX12) (As := []) (rest := []) ⟨hx, hb, hml, hown, hts⟩ (c_X12_isFull l D k mo 0 m1 m2 m3 m4 m5 v6 v7 v8 v9 v10 v11 v12 v13 v14 v15 m16 m17 m18 m19 m20 m21 m22 m23 v24 m25 m26 m27 m28 m29 v30 m31 m32 m33 v34 v35 v36 m37 m38 m39 m40 v41 f17 H.size (show 0 ≤ v6.toInt ∧ v6.toInt ≤ 1000 from by omega) (show 0 ≤ v24.toInt ∧ v24.toInt ≤ 1023 from by omega) hp_f17_0 hp_f17_1 hp_f17_2 hp_f17_3 hp_f17_4 hp_f17_5) (cwV 0 hts (gV tw_8_204 tw_8_206 tw_p_95 tw_1_13 tw_8_207) rfl rfl rfl hdV_X12_isFull ⟨Nat.le_of_ble_eq_true rfl, Nat.le_of_ble_eq_true rfl⟩) (cz_V hK hPc hDc hN (ci := 12) (q0 := 0) rfl rfl []) rfl rfl hl.1 rfl (lv_room (Nat.le_of_ble_eq_true rfl)) dX12_holds_29 ⟨Nat.le_of_ble_eq_true rfl, Nat.le_of_ble_eq_true rfl⟩) hS (fun q _ h => hFc q h) hFc (fun r_11 uZ tZ H1 locs ht hvm hw hB hz1 hk1 hS => ?_)
      obtain ⟨hP1, hK1, hD1⟩ := hB
      rw [ht] at hP1
      obtain ⟨hP, hD⟩ := va_join (wr := [(m18, .inl (k 0, 250, .inl f18)), (m19, .inl (k 0, 40, .inl f19)), (m22, .inl (k 0, 600, .inl f22)), (m25, .inl (k 0, 4, .inl f25))]) (w1 := [(mo, .inr (12, [.int 0, .ref m1, .ref m2, .ref m3, .ref m4, .ref m5, .int v6, .int v7, .int v8, .int v9, .int v10, .long v11, .int v12, .int v13, .int v14, .int v15, .ref m16, .ref m17, .ref m18, .ref m19, .ref m20, .ref m21, .ref m22, .ref m23, .int v24, .ref m25, .ref m26, .ref m27, .ref m28, .ref m29, .int v30, .ref m31, .ref m32, .ref m33, .int v34, .int v35, .int v36, .ref m37, .ref m38, .ref m39, .ref m40, .long v41])), (m17, .inl (k 0, 30, .inl f17))]) hP hD [4, 5] [0, 1, 2, 3] rfl rfl (by decide +kernel) (by decide +kernel) hk1 hFc hP1 hD1
      clear hK1 hP1 hD1 hPc hDc hFc
      clear hk1 hz1 ht hvm
      have hP : va_P D vwCl [(m18, .inl (k 0, 250, .inl f18)), (m19, .inl (k 0, 40, .inl f19)), (m22, .inl (k 0, 600, .inl f22)), (m25, .inl (k 0, 4, .inl f25)), (mo, .inr (12, [.int 0, .ref m1, .ref m2, .ref m3, .ref m4, .ref m5, .int v6, .int v7, .int v8, .int v9, .int v10, .long v11, .int v12, .int v13, .int v14, .int v15, .ref m16, .ref m17, .ref m18, .ref m19, .ref m20, .ref m21, .ref m22, .ref m23, .int v24, .ref m25, .ref m26, .ref m27, .ref m28, .ref m29, .int v30, .ref m31, .ref m32, .ref m33, .int v34, .int v35, .int v36, .ref m37, .ref m38, .ref m39, .ref m40, .long v41])), (m17, .inl (k 0, 30, .inl f17))] H1 := hP
      have hD : va_D A [(m18, .inl (k 0, 250, .inl f18)), (m19, .inl (k 0, 40, .inl f19)), (m22, .inl (k 0, 600, .inl f22)), (m25, .inl (k 0, 4, .inl f25)), (mo, .inr (12, [.int 0, .ref m1, .ref m2, .ref m3, .ref m4, .ref m5, .int v6, .int v7, .int v8, .int v9, .int v10, .long v11, .int v12, .int v13, .int v14, .int v15, .ref m16, .ref m17, .ref m18, .ref m19, .ref m20, .ref m21, .ref m22, .ref m23, .int v24, .ref m25, .ref m26, .ref m27, .ref m28, .ref m29, .int v30, .ref m31, .ref m32, .ref m33, .int v34, .int v35, .int v36, .ref m37, .ref m38, .ref m39, .ref m40, .long v41])), (m17, .inl (k 0, 30, .inl f17))] := hD
      generalize H1 = H at hP hS ⊢
      have hw_12 : (0 ≤ r_11.toInt ∧ r_11.toInt ≤ 1) ∧ (r_11.toInt = 1 ∨ (f17 5).toInt ≤ 39) := hw
      obtain ⟨hw_13, hw_14⟩ := hw_12
      clear hw
      refine lv_if_eq (tgt := 38) hx hb dX12_holds_32 (by decide) (fun h_15 => ?_) (fun h_15 => ?_)
      · skip
        have zh_15 : r_11.toInt = 0 := z_eq h_15
        refine lv_aload_n hx hb dX12_holds_38 rfl (lv_at hl 0 rfl) ?_
        obtain ⟨hPc, hDc, hFc⟩ := sub3 hP hD hS hA (ws' := [(mo, .inr (12, [.int 0, .ref m1, .ref m2, .ref m3, .ref m4, .ref m5, .int v6, .int v7, .int v8, .int v9, .int v10, .long v11, .int v12, .int v13, .int v14, .int v15, .ref m16, .ref m17, .ref m18, .ref m19, .ref m20, .ref m21, .ref m22, .ref m23, .int v24, .ref m25, .ref m26, .ref m27, .ref m28, .ref m29, .int v30, .ref m31, .ref m32, .ref m33, .int v34, .int v35, .int v36, .ref m37, .ref m38, .ref m39, .ref m40, .long v41])), (m17, .inl (k 0, 30, .inl f17)), (m18, .inl (k 0, 250, .inl f18)), (m19, .inl (k 0, 40, .inl f19)), (m22, .inl (k 0, 600, .inl f22)), (m25, .inl (k 0, 4, .inl f25))]) [4, 5, 0, 1, 2, 3] (by decide +kernel) rfl
        refine va_callv (va_runV (C := RX12) (As := []) (rest := []) ⟨hx, hb, hml, hown, hts⟩ (c_X12_lays l D k mo 0 m1 m2 m3 m4 m5 v6 v7 v8 v9 v10 v11 v12 v13 v14 v15 m16 m17 m18 m19 m20 m21 m22 m23 v24 m25 m26 m27 m28 m29 v30 m31 m32 m33 v34 v35 v36 m37 m38 m39 m40 v41 f17 f18 f19 f22 f25 H.size (show 0 ≤ v6.toInt ∧ v6.toInt ≤ 1000 from by omega) (show 0 ≤ v24.toInt ∧ v24.toInt ≤ 1023 from by omega) hp_f17_0 hp_f17_1 hp_f17_2 hp_f17_3 hp_f17_4 hp_f17_5 hp_f18_0 hp_f18_1 hp_f18_2 hp_f18_3 hp_f19_0 hp_f19_1 hp_f22_0 hp_f22_1 hp_f22_2 hp_f25_0) (cwV 0 hts (gV tw_7_103 tw_7_105 tw_p_59 tw_1_13 tw_7_106) rfl rfl rfl hdV_X12_lays ⟨Nat.le_of_ble_eq_true rfl, Nat.le_of_ble_eq_true rfl⟩) (cz_V hK hPc hDc hN (ci := 12) (q0 := 0) rfl rfl []) rfl rfl hl.1 rfl (lv_room (Nat.le_of_ble_eq_true rfl)) dX12_holds_39 ⟨Nat.le_of_ble_eq_true rfl, Nat.le_of_ble_eq_true rfl⟩) hS (fun q _ h => hFc q h) hFc (fun uZ tZ H1 locs ht hvm hw hB hz1 hk1 hS => ?_)
        obtain ⟨o_17, o_18⟩ := uZ
        obtain ⟨hP1, hK1, hD1⟩ := hB
        rw [ht] at hP1
        obtain ⟨hP, hD⟩ := va_join (wr := []) (w1 := [(mo, .inr (12, [.int 0, .ref m1, .ref m2, .ref m3, .ref m4, .ref m5, .int v6, .int v7, .int v8, .int v9, .int v10, .long v11, .int v12, .int v13, .int v14, .int v15, .ref m16, .ref m17, .ref m18, .ref m19, .ref m20, .ref m21, .ref m22, .ref m23, .int o_17, .ref m25, .ref m26, .ref m27, .ref m28, .ref m29, .int v30, .ref m31, .ref m32, .ref m33, .int v34, .int v35, .int v36, .ref m37, .ref m38, .ref m39, .ref m40, .long v41])), (m17, .inl (k 0, 30, .inl f17)), (m18, .inl (k 0, 250, .inl f18)), (m19, .inl (k 0, 40, .inl f19)), (m22, .inl (k 0, 600, .inl f22)), (m25, .inl (k 0, 4, .inl o_18))]) hP hD [4, 5, 0, 1, 2, 3] [] rfl rfl (by decide +kernel) (by decide +kernel) hk1 hFc hP1 hD1
        clear hK1 hP1 hD1 hPc hDc hFc
        clear hk1 hz1 ht hvm
        have hP : va_P D vwCl [(mo, .inr (12, [.int 0, .ref m1, .ref m2, .ref m3, .ref m4, .ref m5, .int v6, .int v7, .int v8, .int v9, .int v10, .long v11, .int v12, .int v13, .int v14, .int v15, .ref m16, .ref m17, .ref m18, .ref m19, .ref m20, .ref m21, .ref m22, .ref m23, .int o_17, .ref m25, .ref m26, .ref m27, .ref m28, .ref m29, .int v30, .ref m31, .ref m32, .ref m33, .int v34, .int v35, .int v36, .ref m37, .ref m38, .ref m39, .ref m40, .long v41])), (m17, .inl (k 0, 30, .inl f17)), (m18, .inl (k 0, 250, .inl f18)), (m19, .inl (k 0, 40, .inl f19)), (m22, .inl (k 0, 600, .inl f22)), (m25, .inl (k 0, 4, .inl o_18))] H1 := hP
        have hD : va_D A [(mo, .inr (12, [.int 0, .ref m1, .ref m2, .ref m3, .ref m4, .ref m5, .int v6, .int v7, .int v8, .int v9, .int v10, .long v11, .int v12, .int v13, .int v14, .int v15, .ref m16, .ref m17, .ref m18, .ref m19, .ref m20, .ref m21, .ref m22, .ref m23, .int o_17, .ref m25, .ref m26, .ref m27, .ref m28, .ref m29, .int v30, .ref m31, .ref m32, .ref m33, .int v34, .int v35, .int v36, .ref m37, .ref m38, .ref m39, .ref m40, .long v41])), (m17, .inl (k 0, 30, .inl f17)), (m18, .inl (k 0, 250, .inl f18)), (m19, .inl (k 0, 40, .inl f19)), (m22, .inl (k 0, 600, .inl f22)), (m25, .inl (k 0, 4, .inl o_18))] := hD
        generalize H1 = H at hP hS ⊢
        have hw_19 : (0 ≤ o_17.toInt ∧ o_17.toInt ≤ 1023) ∧ (PR 4 1 0 0 99 o_18) := hw
        obtain ⟨hw_20, hw_21⟩ := hw_19
        clear hw
        refine lv_aload_n hx hb dX12_holds_42 rfl (lv_at hl 0 rfl) ?_
        refine lv_iconst (v := 1) hx hb dX12_holds_43 (by decide) ?_
        refine lv_iload_n hx hb dX12_holds_44 rfl (lv_at hl 1 rfl) ?_
        refine lv_iload_n hx hb dX12_holds_45 rfl (lv_at hl 2 rfl) ?_
        obtain ⟨hPc, hDc, hFc⟩ := sub3 hP hD hS hA (ws' := [(mo, .inr (12, [.int 0, .ref m1, .ref m2, .ref m3, .ref m4, .ref m5, .int v6, .int v7, .int v8, .int v9, .int v10, .long v11, .int v12, .int v13, .int v14, .int v15, .ref m16, .ref m17, .ref m18, .ref m19, .ref m20, .ref m21, .ref m22, .ref m23, .int o_17, .ref m25, .ref m26, .ref m27, .ref m28, .ref m29, .int v30, .ref m31, .ref m32, .ref m33, .int v34, .int v35, .int v36, .ref m37, .ref m38, .ref m39, .ref m40, .long v41])), (m17, .inl (k 0, 30, .inl f17)), (m18, .inl (k 0, 250, .inl f18)), (m22, .inl (k 0, 600, .inl f22))]) [0, 1, 2, 4] (by decide +kernel) rfl
        refine va_callv (va_runV (C := RX12) (As := [.int 1, .int p0, .int p1]) (rest := []) ⟨hx, hb, hml, hown, hts⟩ (c_X12_acts_1 l D k mo p0 p1 0 m1 m2 m3 m4 m5 v6 v7 v8 v9 v10 v11 v12 v13 v14 v15 m16 m17 m18 m19 m20 m21 m22 m23 o_17 m25 m26 m27 m28 m29 v30 m31 m32 m33 v34 v35 v36 m37 m38 m39 m40 v41 f17 f18 f22 H.size (show 0 ≤ p0.toInt ∧ p0.toInt ≤ 3 from by omega) (show 0 ≤ p1.toInt ∧ p1.toInt ≤ 99 from by omega) (show 0 ≤ v6.toInt ∧ v6.toInt ≤ 1000 from by omega) (show 0 ≤ o_17.toInt ∧ o_17.toInt ≤ 1023 from by omega) hp_f17_0 hp_f17_1 hp_f17_2 hp_f17_3 hp_f17_4 hp_f17_5 hp_f18_0 hp_f18_1 hp_f18_2 hp_f18_3 hp_f22_0 hp_f22_1 hp_f22_2 (show (f17 5).toInt ≤ 39 from by omega) hTK) (cwV 3 hts (gV tw_8_208 tw_8_210 tw_p_96 tw_1_13 tw_8_211) rfl rfl rfl hdV_X12_acts ⟨Nat.le_of_ble_eq_true rfl, Nat.le_of_ble_eq_true rfl⟩) (cz_V hK hPc hDc hN (ci := 12) (q0 := 0) rfl rfl [.int 1, .int p0, .int p1]) rfl rfl hl.1 rfl (lv_room (Nat.le_of_ble_eq_true rfl)) dX12_holds_46 ⟨Nat.le_of_ble_eq_true rfl, Nat.le_of_ble_eq_true rfl⟩) hS (fun q _ h => hFc q h) hFc (fun uZ tZ H1 locs ht hvm hw hB hz1 hk1 hS => ?_)
        obtain ⟨o_23, o_24⟩ := uZ
        obtain ⟨hP1, hK1, hD1⟩ := hB
        rw [ht] at hP1
        obtain ⟨hP, hD⟩ := va_join (wr := [(m19, .inl (k 0, 40, .inl f19)), (m25, .inl (k 0, 4, .inl o_18))]) (w1 := [(mo, .inr (12, [.int 0, .ref m1, .ref m2, .ref m3, .ref m4, .ref m5, .int v6, .int v7, .int v8, .int v9, .int v10, .long v11, .int v12, .int v13, .int v14, .int v15, .ref m16, .ref m17, .ref m18, .ref m19, .ref m20, .ref m21, .ref m22, .ref m23, .int o_17, .ref m25, .ref m26, .ref m27, .ref m28, .ref m29, .int v30, .ref m31, .ref m32, .ref m33, .int v34, .int v35, .int v36, .ref m37, .ref m38, .ref m39, .ref m40, .long v41])), (m17, .inl (k 0, 30, .inl o_23)), (m18, .inl (k 0, 250, .inl f18)), (m22, .inl (k 0, 600, .inl o_24))]) hP hD [0, 1, 2, 4] [3, 5] rfl rfl (by decide +kernel) (by decide +kernel) hk1 hFc hP1 hD1
        clear hK1 hP1 hD1 hPc hDc hFc
        clear hk1 hz1 ht hvm
        have hP : va_P D vwCl [(m19, .inl (k 0, 40, .inl f19)), (m25, .inl (k 0, 4, .inl o_18)), (mo, .inr (12, [.int 0, .ref m1, .ref m2, .ref m3, .ref m4, .ref m5, .int v6, .int v7, .int v8, .int v9, .int v10, .long v11, .int v12, .int v13, .int v14, .int v15, .ref m16, .ref m17, .ref m18, .ref m19, .ref m20, .ref m21, .ref m22, .ref m23, .int o_17, .ref m25, .ref m26, .ref m27, .ref m28, .ref m29, .int v30, .ref m31, .ref m32, .ref m33, .int v34, .int v35, .int v36, .ref m37, .ref m38, .ref m39, .ref m40, .long v41])), (m17, .inl (k 0, 30, .inl o_23)), (m18, .inl (k 0, 250, .inl f18)), (m22, .inl (k 0, 600, .inl o_24))] H1 := hP
        have hD : va_D A [(m19, .inl (k 0, 40, .inl f19)), (m25, .inl (k 0, 4, .inl o_18)), (mo, .inr (12, [.int 0, .ref m1, .ref m2, .ref m3, .ref m4, .ref m5, .int v6, .int v7, .int v8, .int v9, .int v10, .long v11, .int v12, .int v13, .int v14, .int v15, .ref m16, .ref m17, .ref m18, .ref m19, .ref m20, .ref m21, .ref m22, .ref m23, .int o_17, .ref m25, .ref m26, .ref m27, .ref m28, .ref m29, .int v30, .ref m31, .ref m32, .ref m33, .int v34, .int v35, .int v36, .ref m37, .ref m38, .ref m39, .ref m40, .long v41])), (m17, .inl (k 0, 30, .inl o_23)), (m18, .inl (k 0, 250, .inl f18)), (m22, .inl (k 0, 600, .inl o_24))] := hD
        generalize H1 = H at hP hS ⊢
        have hw_25 : (PR 30 6 0 0 8 o_23) ∧ (PR 30 6 1 0 10 o_23) ∧ (PR 30 6 2 0 4 o_23) ∧ (PR 30 6 3 0 6 o_23) ∧ (PR 30 6 4 0 2 o_23) ∧ (PR 30 6 5 0 40 o_23) ∧ (PR 600 3 1 0 9 o_24) ∧ (PR 600 3 2 0 99 o_24) ∧ (AK o_24) ∧ (TK o_23 f18) := hw
        obtain ⟨hw_26, hw_27, hw_28, hw_29, hw_30, hw_31, hw_32, hw_33, hw_34, hw_35⟩ := hw_25
        clear hw
        refine lv_aload_n hx hb dX12_holds_49 rfl (lv_at hl 0 rfl) ?_
        refine va_get (D := D) (ci := 12) (v := .ref m25) (C := RX12) (T := TX12) (N := 42) hx hb hts iT_X12 hown hK hP 2 rfl rfl 25 (by decide) (hts _ tw_6_78) (fun _ h9 => h9) rfl dX12_holds_50 ?_
        refine lv_iload_n hx hb dX12_holds_53 rfl (lv_at hl 1 rfl) ?_
        refine va_iald hx hb hK hP 1 0 rfl rfl (z_in (by omega) (by omega)) dX12_holds_54 ?_
        refine lv_topi (fun x_36 ex_36 => ?_)
        have zx_36r0 : 0 ≤ x_36.toInt ∧ x_36.toInt ≤ 99 := by rw [ex_36]; exact PR.ld hw_21 (by omega) (by omega) (by omega)
        obtain ⟨hP9, hD9⟩ := sub2 hP hD (ws' := [(mo, .inr (12, [.int 0, .ref m1, .ref m2, .ref m3, .ref m4, .ref m5, .int v6, .int v7, .int v8, .int v9, .int v10, .long v11, .int v12, .int v13, .int v14, .int v15, .ref m16, .ref m17, .ref m18, .ref m19, .ref m20, .ref m21, .ref m22, .ref m23, .int o_17, .ref m25, .ref m26, .ref m27, .ref m28, .ref m29, .int v30, .ref m31, .ref m32, .ref m33, .int v34, .int v35, .int v36, .ref m37, .ref m38, .ref m39, .ref m40, .long v41])), (m17, .inl (k 0, 30, .inl o_23)), (m18, .inl (k 0, 250, .inl f18)), (m19, .inl (k 0, 40, .inl f19)), (m22, .inl (k 0, 600, .inl o_24)), (m25, .inl (k 0, 4, .inl o_18))]) [2, 3, 4, 0, 5, 1] (by decide +kernel) rfl
        exact W.iret (v := x_36) hx hb hr (fun tZ ht hW => ⟨⟨x_36, (0, o_17, o_23, o_24, o_18), rfl, ⟨(show (-5) ≤ x_36.toInt ∧ x_36.toInt ≤ 99 from by omega), (show 0 ≤ 0 ∧ 0 ≤ 0 from by omega), (show 0 ≤ o_17.toInt ∧ o_17.toInt ≤ 1023 from by omega), hw_26, hw_27, hw_28, hw_29, hw_30, hw_31, hw_32, hw_33, hw_34, hw_21, hw_35⟩, by rw [ht]; exact hP9, va_K.moved hW.alike hK, hD9⟩, hS.F ht⟩) hS.2.2 dX12_holds_55
      · skip
        have zh_15 : ¬ r_11.toInt = 0 := z_ne h_15
        refine lv_bipush (v := (-5)) hx hb dX12_holds_35 (by decide) ?_
        obtain ⟨hP9, hD9⟩ := sub2 hP hD (ws' := [(mo, .inr (12, [.int 0, .ref m1, .ref m2, .ref m3, .ref m4, .ref m5, .int v6, .int v7, .int v8, .int v9, .int v10, .long v11, .int v12, .int v13, .int v14, .int v15, .ref m16, .ref m17, .ref m18, .ref m19, .ref m20, .ref m21, .ref m22, .ref m23, .int v24, .ref m25, .ref m26, .ref m27, .ref m28, .ref m29, .int v30, .ref m31, .ref m32, .ref m33, .int v34, .int v35, .int v36, .ref m37, .ref m38, .ref m39, .ref m40, .long v41])), (m17, .inl (k 0, 30, .inl f17)), (m18, .inl (k 0, 250, .inl f18)), (m19, .inl (k 0, 40, .inl f19)), (m22, .inl (k 0, 600, .inl f22)), (m25, .inl (k 0, 4, .inl f25))]) [4, 5, 0, 1, 2, 3] (by decide +kernel) rfl
        exact W.iret (v := (-5)) hx hb hr (fun tZ ht hW => ⟨⟨(-5), (0, v24, f17, f22, f25), rfl, ⟨(show (-5) ≤ (-5) ∧ (-5) ≤ 99 from by omega), (show 0 ≤ 0 ∧ 0 ≤ 0 from by omega), (show 0 ≤ v24.toInt ∧ v24.toInt ≤ 1023 from by omega), hp_f17_0, hp_f17_1, hp_f17_2, hp_f17_3, hp_f17_4, hp_f17_5, hp_f22_0, hp_f22_1, hp_f22_2, hp_f25_0, hTK⟩, by rw [ht]; exact hP9, va_K.moved hW.alike hK, hD9⟩, hS.F ht⟩) hS.2.2 dX12_holds_37
    · skip
      have zh_10 : r_6.toInt = 0 := z_eq h_10
      refine lv_bipush (v := (-2)) hx hb dX12_holds_25 (by decide) ?_
      obtain ⟨hP9, hD9⟩ := sub2 hP hD (ws' := [(mo, .inr (12, [.int 0, .ref m1, .ref m2, .ref m3, .ref m4, .ref m5, .int v6, .int v7, .int v8, .int v9, .int v10, .long v11, .int v12, .int v13, .int v14, .int v15, .ref m16, .ref m17, .ref m18, .ref m19, .ref m20, .ref m21, .ref m22, .ref m23, .int v24, .ref m25, .ref m26, .ref m27, .ref m28, .ref m29, .int v30, .ref m31, .ref m32, .ref m33, .int v34, .int v35, .int v36, .ref m37, .ref m38, .ref m39, .ref m40, .long v41])), (m17, .inl (k 0, 30, .inl f17)), (m18, .inl (k 0, 250, .inl f18)), (m19, .inl (k 0, 40, .inl f19)), (m22, .inl (k 0, 600, .inl f22)), (m25, .inl (k 0, 4, .inl f25))]) [4, 5, 0, 1, 2, 3] (by decide +kernel) rfl
      exact W.iret (v := (-2)) hx hb hr (fun tZ ht hW => ⟨⟨(-2), (0, v24, f17, f22, f25), rfl, ⟨(show (-5) ≤ (-2) ∧ (-2) ≤ 99 from by omega), (show 0 ≤ 0 ∧ 0 ≤ 0 from by omega), (show 0 ≤ v24.toInt ∧ v24.toInt ≤ 1023 from by omega), hp_f17_0, hp_f17_1, hp_f17_2, hp_f17_3, hp_f17_4, hp_f17_5, hp_f22_0, hp_f22_1, hp_f22_2, hp_f25_0, hTK⟩, by rw [ht]; exact hP9, va_K.moved hW.alike hK, hD9⟩, hS.F ht⟩) hS.2.2 dX12_holds_27
set_option maxHeartbeats 4000000 in
set_option maxRecDepth 100000 in
theorem c_X12_undo (l : Launch) (D : va_G) (k : Nat → ClassId) (mo : Nat) (v0 : Int32) (m1 : Nat) (m2 : Nat) (m3 : Nat) (m4 : Nat) (m5 : Nat) (v6 : Int32) (v7 : Int32) (v8 : Int32) (v9 : Int32) (v10 : Int32) (v11 : Int64) (v12 : Int32) (v13 : Int32) (v14 : Int32) (v15 : Int32) (m16 : Nat) (m17 : Nat) (m18 : Nat) (m19 : Nat) (m20 : Nat) (m21 : Nat) (m22 : Nat) (m23 : Nat) (v24 : Int32) (m25 : Nat) (m26 : Nat) (m27 : Nat) (m28 : Nat) (m29 : Nat) (v30 : Int32) (m31 : Nat) (m32 : Nat) (m33 : Nat) (v34 : Int32) (v35 : Int32) (v36 : Int32) (m37 : Nat) (m38 : Nat) (m39 : Nat) (m40 : Nat) (v41 : Int64) (f16 : Nat → Int32) (f17 : Nat → Int32) (f18 : Nat → Int32) (sz : Nat) (h_v6 : 0 ≤ v6.toInt ∧ v6.toInt ≤ 1000) (h_v24 : 0 ≤ v24.toInt ∧ v24.toInt ≤ 1023) (hp_f17_0 : PR 30 6 0 0 8 f17) (hp_f17_1 : PR 30 6 1 0 10 f17) (hp_f17_2 : PR 30 6 2 0 4 f17) (hp_f17_3 : PR 30 6 3 0 6 f17) (hp_f17_4 : PR 30 6 4 0 2 f17) (hp_f17_5 : PR 30 6 5 0 40 f17) (hp_f18_0 : PR 250 5 0 0 7 f18) (hp_f18_1 : PR 250 5 1 0 7 f18) (hp_f18_2 : PR 250 5 2 0 60 f18) (hp_f18_3 : PR 250 5 3 0 10 f18) (hTK : TK f17 f18) : Met l yX12_undo (ww yX12_undo cX12_undo 1 (some .int)) ({ frames := 1, cells := 0, slots := 0, locals := 20 }) (Pre0 D k [(mo, .inr (12, [.int v0, .ref m1, .ref m2, .ref m3, .ref m4, .ref m5, .int v6, .int v7, .int v8, .int v9, .int v10, .long v11, .int v12, .int v13, .int v14, .int v15, .ref m16, .ref m17, .ref m18, .ref m19, .ref m20, .ref m21, .ref m22, .ref m23, .int v24, .ref m25, .ref m26, .ref m27, .ref m28, .ref m29, .int v30, .ref m31, .ref m32, .ref m33, .int v34, .int v35, .int v36, .ref m37, .ref m38, .ref m39, .ref m40, .long v41])), (m16, .inl (k 0, 5, .inl f16)), (m17, .inl (k 0, 30, .inl f17)), (m18, .inl (k 0, 250, .inl f18))] sz [.ref mo]) (va_Qi (fun (r : Int32) (u : Int32 × (Nat → Int32)) => match u with | (v0z, f17z) => ((-5) ≤ r.toInt ∧ r.toInt ≤ 39) ∧ (0 ≤ v0z.toInt ∧ v0z.toInt ≤ 0) ∧ (PR 30 6 0 0 8 f17z) ∧ (PR 30 6 1 0 10 f17z) ∧ (PR 30 6 2 0 4 f17z) ∧ (PR 30 6 3 0 6 f17z) ∧ (PR 30 6 4 0 2 f17z) ∧ (PR 30 6 5 0 40 f17z) ∧ (TK f17z f18)) (fun (u : Int32 × (Nat → Int32)) tZ => match u with | (v0z, f17z) => Bw D k (va_A [(mo, .inr (12, [.int v0, .ref m1, .ref m2, .ref m3, .ref m4, .ref m5, .int v6, .int v7, .int v8, .int v9, .int v10, .long v11, .int v12, .int v13, .int v14, .int v15, .ref m16, .ref m17, .ref m18, .ref m19, .ref m20, .ref m21, .ref m22, .ref m23, .int v24, .ref m25, .ref m26, .ref m27, .ref m28, .ref m29, .int v30, .ref m31, .ref m32, .ref m33, .int v34, .int v35, .int v36, .ref m37, .ref m38, .ref m39, .ref m40, .long v41])), (m16, .inl (k 0, 5, .inl f16)), (m17, .inl (k 0, 30, .inl f17)), (m18, .inl (k 0, 250, .inl f18))] sz) [(mo, .inr (12, [.int v0z, .ref m1, .ref m2, .ref m3, .ref m4, .ref m5, .int v6, .int v7, .int v8, .int v9, .int v10, .long v11, .int v12, .int v13, .int v14, .int v15, .ref m16, .ref m17, .ref m18, .ref m19, .ref m20, .ref m21, .ref m22, .ref m23, .int v24, .ref m25, .ref m26, .ref m27, .ref m28, .ref m29, .int v30, .ref m31, .ref m32, .ref m33, .int v34, .int v35, .int v36, .ref m37, .ref m38, .ref m39, .ref m40, .long v41])), (m16, .inl (k 0, 5, .inl f16)), (m17, .inl (k 0, 30, .inl f17z)), (m18, .inl (k 0, 250, .inl f18))] tZ) (va_A [(mo, .inr (12, [.int v0, .ref m1, .ref m2, .ref m3, .ref m4, .ref m5, .int v6, .int v7, .int v8, .int v9, .int v10, .long v11, .int v12, .int v13, .int v14, .int v15, .ref m16, .ref m17, .ref m18, .ref m19, .ref m20, .ref m21, .ref m22, .ref m23, .int v24, .ref m25, .ref m26, .ref m27, .ref m28, .ref m29, .int v30, .ref m31, .ref m32, .ref m33, .int v34, .int v35, .int v36, .ref m37, .ref m38, .ref m39, .ref m40, .long v41])), (m16, .inl (k 0, 5, .inl f16)), (m17, .inl (k 0, 30, .inl f17)), (m18, .inl (k 0, 250, .inl f18))] sz)) 0 0 (va_A [(mo, .inr (12, [.int v0, .ref m1, .ref m2, .ref m3, .ref m4, .ref m5, .int v6, .int v7, .int v8, .int v9, .int v10, .long v11, .int v12, .int v13, .int v14, .int v15, .ref m16, .ref m17, .ref m18, .ref m19, .ref m20, .ref m21, .ref m22, .ref m23, .int v24, .ref m25, .ref m26, .ref m27, .ref m28, .ref m29, .int v30, .ref m31, .ref m32, .ref m33, .int v34, .int v35, .int v36, .ref m37, .ref m38, .ref m39, .ref m40, .long v41])), (m16, .inl (k 0, 5, .inl f16)), (m17, .inl (k 0, 30, .inl f17)), (m18, .inl (k 0, 250, .inl f18))] sz) := by
  refine Met.ofW (cc := cX12_undo) (maxL := 1) (ret := (some .int)) (by decide +kernel) rfl ?_
  intro p e s m args below meth c s₁ B hml hv
  obtain ⟨rfl, hsz, hP, hK, hD0, hN⟩ := hv
  have hx := B.exec
  have hb := B.bytes
  have hr := B.returns
  have hts : ∀ w ∈ TT, w.before _ s = true := fun w h => atoms_spec (ws := ww yX12_undo cX12_undo 1 (some .int)) B.pre w (List.mem_cons_of_mem _ h)
  have hown : s.vm.findClass RX12 = some m.cls := findClass_of_methodNamed B.named
  have hlocks := B.notSynchronized
  subst hsz
  have hD := hD0.self (sz := s.heap.size)
  generalize hAe : va_A [(mo, .inr (12, [.int v0, .ref m1, .ref m2, .ref m3, .ref m4, .ref m5, .int v6, .int v7, .int v8, .int v9, .int v10, .long v11, .int v12, .int v13, .int v14, .int v15, .ref m16, .ref m17, .ref m18, .ref m19, .ref m20, .ref m21, .ref m22, .ref m23, .int v24, .ref m25, .ref m26, .ref m27, .ref m28, .ref m29, .int v30, .ref m31, .ref m32, .ref m33, .int v34, .int v35, .int v36, .ref m37, .ref m38, .ref m39, .ref m40, .long v41])), (m16, .inl (k 0, 5, .inl f16)), (m17, .inl (k 0, 30, .inl f17)), (m18, .inl (k 0, 250, .inl f18))] s.heap.size = A at hD ⊢
  have hA : ∀ q : Nat, s.heap.size ≤ q → A q := fun q h => by rw [← hAe]; exact Or.inr h
  have hS : va_S A s.heap s.heap [] := va_S.rf
  have hl := lv_entry ([.ref mo]) (n := 1) (Nat.le_of_ble_eq_true rfl)
  rw [lg_entry_eq]
  generalize (lg_sl ([.ref mo]) ++ List.replicate (1 - (lg_sl ([.ref mo])).length) Slot.unset).toArray = ls at hl ⊢
  have hl : lv_has ls 1 [(0, .ref mo)] := hl
  refine lv_aload_n hx hb dX12_undo_0 rfl (lv_at hl 0 rfl) ?_
  refine lv_iconst (v := 0) hx hb dX12_undo_1 (by decide) ?_
  refine va_put (D := D) (ci := 12) (v := .int 0) (ty := tyX12 0) (C := RX12) (T := TX12) (N := 42) hx hb hts iT_X12 tyX12 tyX12_ok nmX12 hown hK hP hD hS 0 rfl rfl 0 (by decide) (hts _ tw_6_53) (fun _ h9 => h9) rfl (tyX12_ok 0 (by decide)) rfl rfl (Nat.le_of_ble_eq_true rfl) dX12_undo_2 (fun H locs hP hD hS => ?_)
  have hP : va_P D vwCl [(mo, .inr (12, [.int 0, .ref m1, .ref m2, .ref m3, .ref m4, .ref m5, .int v6, .int v7, .int v8, .int v9, .int v10, .long v11, .int v12, .int v13, .int v14, .int v15, .ref m16, .ref m17, .ref m18, .ref m19, .ref m20, .ref m21, .ref m22, .ref m23, .int v24, .ref m25, .ref m26, .ref m27, .ref m28, .ref m29, .int v30, .ref m31, .ref m32, .ref m33, .int v34, .int v35, .int v36, .ref m37, .ref m38, .ref m39, .ref m40, .long v41])), (m16, .inl (k 0, 5, .inl f16)), (m17, .inl (k 0, 30, .inl f17)), (m18, .inl (k 0, 250, .inl f18))] H := hP
  have hD : va_D A [(mo, .inr (12, [.int 0, .ref m1, .ref m2, .ref m3, .ref m4, .ref m5, .int v6, .int v7, .int v8, .int v9, .int v10, .long v11, .int v12, .int v13, .int v14, .int v15, .ref m16, .ref m17, .ref m18, .ref m19, .ref m20, .ref m21, .ref m22, .ref m23, .int v24, .ref m25, .ref m26, .ref m27, .ref m28, .ref m29, .int v30, .ref m31, .ref m32, .ref m33, .int v34, .int v35, .int v36, .ref m37, .ref m38, .ref m39, .ref m40, .long v41])), (m16, .inl (k 0, 5, .inl f16)), (m17, .inl (k 0, 30, .inl f17)), (m18, .inl (k 0, 250, .inl f18))] := hD
  refine lv_aload_n hx hb dX12_undo_5 rfl (lv_at hl 0 rfl) ?_
  obtain ⟨hPc, hDc, hFc⟩ := sub3 hP hD hS hA (ws' := [(mo, .inr (12, [.int 0, .ref m1, .ref m2, .ref m3, .ref m4, .ref m5, .int v6, .int v7, .int v8, .int v9, .int v10, .long v11, .int v12, .int v13, .int v14, .int v15, .ref m16, .ref m17, .ref m18, .ref m19, .ref m20, .ref m21, .ref m22, .ref m23, .int v24, .ref m25, .ref m26, .ref m27, .ref m28, .ref m29, .int v30, .ref m31, .ref m32, .ref m33, .int v34, .int v35, .int v36, .ref m37, .ref m38, .ref m39, .ref m40, .long v41])), (m16, .inl (k 0, 5, .inl f16))]) [0, 1] (by decide +kernel) rfl
  refine va_calli (va_runV (C := RX12) (As := []) (rest := []) ⟨hx, hb, hml, hown, hts⟩ (c_X12_isTown l D k mo 0 m1 m2 m3 m4 m5 v6 v7 v8 v9 v10 v11 v12 v13 v14 v15 m16 m17 m18 m19 m20 m21 m22 m23 v24 m25 m26 m27 m28 m29 v30 m31 m32 m33 v34 v35 v36 m37 m38 m39 m40 v41 f16 H.size (show 0 ≤ v6.toInt ∧ v6.toInt ≤ 1000 from by omega) (show 0 ≤ v24.toInt ∧ v24.toInt ≤ 1023 from by omega)) (cwV 0 hts (gV tw_7_181 tw_7_183 tw_p_71 tw_1_13 tw_7_184) rfl rfl rfl hdV_X12_isTown ⟨Nat.le_of_ble_eq_true rfl, Nat.le_of_ble_eq_true rfl⟩) (cz_V hK hPc hDc hN (ci := 12) (q0 := 0) rfl rfl []) rfl rfl hl.1 rfl (lv_room (Nat.le_of_ble_eq_true rfl)) dX12_undo_6 ⟨Nat.le_of_ble_eq_true rfl, Nat.le_of_ble_eq_true rfl⟩) hS (fun q _ h => hFc q h) hFc (fun r_1 uZ tZ H1 locs ht hvm hw hB hz1 hk1 hS => ?_)
  obtain ⟨hP1, hK1, hD1⟩ := hB
  rw [ht] at hP1
  obtain ⟨hP, hD⟩ := va_join (wr := [(m17, .inl (k 0, 30, .inl f17)), (m18, .inl (k 0, 250, .inl f18))]) (w1 := [(mo, .inr (12, [.int 0, .ref m1, .ref m2, .ref m3, .ref m4, .ref m5, .int v6, .int v7, .int v8, .int v9, .int v10, .long v11, .int v12, .int v13, .int v14, .int v15, .ref m16, .ref m17, .ref m18, .ref m19, .ref m20, .ref m21, .ref m22, .ref m23, .int v24, .ref m25, .ref m26, .ref m27, .ref m28, .ref m29, .int v30, .ref m31, .ref m32, .ref m33, .int v34, .int v35, .int v36, .ref m37, .ref m38, .ref m39, .ref m40, .long v41])), (m16, .inl (k 0, 5, .inl f16))]) hP hD [0, 1] [2, 3] rfl rfl (by decide +kernel) (by decide +kernel) hk1 hFc hP1 hD1
  clear hK1 hP1 hD1 hPc hDc hFc
  clear hk1 hz1 ht hvm
  have hP : va_P D vwCl [(m17, .inl (k 0, 30, .inl f17)), (m18, .inl (k 0, 250, .inl f18)), (mo, .inr (12, [.int 0, .ref m1, .ref m2, .ref m3, .ref m4, .ref m5, .int v6, .int v7, .int v8, .int v9, .int v10, .long v11, .int v12, .int v13, .int v14, .int v15, .ref m16, .ref m17, .ref m18, .ref m19, .ref m20, .ref m21, .ref m22, .ref m23, .int v24, .ref m25, .ref m26, .ref m27, .ref m28, .ref m29, .int v30, .ref m31, .ref m32, .ref m33, .int v34, .int v35, .int v36, .ref m37, .ref m38, .ref m39, .ref m40, .long v41])), (m16, .inl (k 0, 5, .inl f16))] H1 := hP
  have hD : va_D A [(m17, .inl (k 0, 30, .inl f17)), (m18, .inl (k 0, 250, .inl f18)), (mo, .inr (12, [.int 0, .ref m1, .ref m2, .ref m3, .ref m4, .ref m5, .int v6, .int v7, .int v8, .int v9, .int v10, .long v11, .int v12, .int v13, .int v14, .int v15, .ref m16, .ref m17, .ref m18, .ref m19, .ref m20, .ref m21, .ref m22, .ref m23, .int v24, .ref m25, .ref m26, .ref m27, .ref m28, .ref m29, .int v30, .ref m31, .ref m32, .ref m33, .int v34, .int v35, .int v36, .ref m37, .ref m38, .ref m39, .ref m40, .long v41])), (m16, .inl (k 0, 5, .inl f16))] := hD
  generalize H1 = H at hP hS ⊢
  have hw_2 : (0 ≤ r_1.toInt ∧ r_1.toInt ≤ 1) := hw
  have hw_3 := hw_2
  clear hw
  refine lv_if_ne (tgt := 15) hx hb dX12_undo_9 (by decide) (fun h_4 => ?_) (fun h_4 => ?_)
  · skip
    have zh_4 : ¬ r_1.toInt = 0 := z_ne h_4
    refine lv_aload_n hx hb dX12_undo_15 rfl (lv_at hl 0 rfl) ?_
    refine va_get (D := D) (ci := 12) (v := .ref m17) (C := RX12) (T := TX12) (N := 42) hx hb hts iT_X12 hown hK hP 2 rfl rfl 17 (by decide) (hts _ tw_6_70) (fun _ h9 => h9) rfl dX12_undo_16 ?_
    refine lv_iconst (v := 5) hx hb dX12_undo_19 (by decide) ?_
    refine va_iald hx hb hK hP 0 0 rfl rfl (z_in (by decide) (by decide)) dX12_undo_20 ?_
    refine lv_topi (fun x_5 ex_5 => ?_)
    have zx_5r5 : 0 ≤ x_5.toInt ∧ x_5.toInt ≤ 40 := by rw [ex_5]; exact PR.ld hp_f17_5 (by decide) (by decide) (by decide)
    refine lv_if_ne (tgt := 27) hx hb dX12_undo_21 (by decide) (fun h_6 => ?_) (fun h_6 => ?_)
    · skip
      have zh_6 : ¬ x_5.toInt = 0 := z_ne h_6
      refine lv_aload_n hx hb dX12_undo_27 rfl (lv_at hl 0 rfl) ?_
      refine va_get (D := D) (ci := 12) (v := .ref m17) (C := RX12) (T := TX12) (N := 42) hx hb hts iT_X12 hown hK hP 2 rfl rfl 17 (by decide) (hts _ tw_6_70) (fun _ h9 => h9) rfl dX12_undo_28 ?_
      refine lv_iconst (v := 5) hx hb dX12_undo_31 (by decide) ?_
      refine lv_dup2_11 hx hb dX12_undo_32 rfl rfl ?_
      refine va_iald hx hb hK hP 0 0 rfl rfl (z_in (by decide) (by decide)) dX12_undo_33 ?_
      refine lv_topi (fun x_7 ex_7 => ?_)
      obtain rfl : x_5 = x_7 := ex_5.trans ex_7.symm
      refine lv_iconst (v := 1) hx hb dX12_undo_34 (by decide) ?_
      refine lv_isub hx hb dX12_undo_35 ?_
      refine lv_topi (fun x_8 ex_8 => ?_)
      have zx_8 : x_8.toInt = x_5.toInt - 1 := by rw [ex_8]; exact z_sub rfl rfl (by omega) (by omega)
      refine va_iast hx hb hK hP hD hS 0 0 rfl rfl (z_in (by decide) (by decide)) dX12_undo_36 (fun H locs hP hD hS => ?_)
      obtain ⟨g_9, eg_9⟩ : ∃ z : Nat → Int32, upd f17 5 x_8 = z := ⟨_, rfl⟩
      have hP : va_P D vwCl [(m17, .inl (k 0, 30, .inl (upd f17 5 x_8))), (m18, .inl (k 0, 250, .inl f18)), (mo, .inr (12, [.int 0, .ref m1, .ref m2, .ref m3, .ref m4, .ref m5, .int v6, .int v7, .int v8, .int v9, .int v10, .long v11, .int v12, .int v13, .int v14, .int v15, .ref m16, .ref m17, .ref m18, .ref m19, .ref m20, .ref m21, .ref m22, .ref m23, .int v24, .ref m25, .ref m26, .ref m27, .ref m28, .ref m29, .int v30, .ref m31, .ref m32, .ref m33, .int v34, .int v35, .int v36, .ref m37, .ref m38, .ref m39, .ref m40, .long v41])), (m16, .inl (k 0, 5, .inl f16))] H := hP
      have hD : va_D A [(m17, .inl (k 0, 30, .inl (upd f17 5 x_8))), (m18, .inl (k 0, 250, .inl f18)), (mo, .inr (12, [.int 0, .ref m1, .ref m2, .ref m3, .ref m4, .ref m5, .int v6, .int v7, .int v8, .int v9, .int v10, .long v11, .int v12, .int v13, .int v14, .int v15, .ref m16, .ref m17, .ref m18, .ref m19, .ref m20, .ref m21, .ref m22, .ref m23, .int v24, .ref m25, .ref m26, .ref m27, .ref m28, .ref m29, .int v30, .ref m31, .ref m32, .ref m33, .int v34, .int v35, .int v36, .ref m37, .ref m38, .ref m39, .ref m40, .long v41])), (m16, .inl (k 0, 5, .inl f16))] := hD
      rw [eg_9] at hP hD
      have hp_10 : PR 30 6 0 0 8 g_9 := by rw [← eg_9]; exact PR.other hp_f17_0 (by decide)
      have hp_11 : PR 30 6 1 0 10 g_9 := by rw [← eg_9]; exact PR.other hp_f17_1 (by decide)
      have hp_12 : PR 30 6 2 0 4 g_9 := by rw [← eg_9]; exact PR.other hp_f17_2 (by decide)
      have hp_13 : PR 30 6 3 0 6 g_9 := by rw [← eg_9]; exact PR.other hp_f17_3 (by decide)
      have hp_14 : PR 30 6 4 0 2 g_9 := by rw [← eg_9]; exact PR.other hp_f17_4 (by decide)
      have hp_15 : PR 30 6 5 0 40 g_9 := by rw [← eg_9]; exact PR.put hp_f17_5 ⟨by omega, by omega⟩
      have tk_16 : TK g_9 f18 := by rw [← eg_9]; exact TK.other hTK (by decide)
      refine lv_aload_n hx hb dX12_undo_37 rfl (lv_at hl 0 rfl) ?_
      refine va_get (D := D) (ci := 12) (v := .ref m17) (C := RX12) (T := TX12) (N := 42) hx hb hts iT_X12 hown hK hP 2 rfl rfl 17 (by decide) (hts _ tw_6_70) (fun _ h9 => h9) rfl dX12_undo_38 ?_
      refine lv_iconst (v := 5) hx hb dX12_undo_41 (by decide) ?_
      refine va_iald hx hb hK hP 0 0 rfl rfl (z_in (by decide) (by decide)) dX12_undo_42 ?_
      refine lv_topi (fun x_17 ex_17 => ?_)
      obtain rfl : x_8 = x_17 := ((ex_17.trans (by rw [← eg_9]; exact pk_us))).symm
      obtain ⟨hP9, hD9⟩ := sub2 hP hD (ws' := [(mo, .inr (12, [.int 0, .ref m1, .ref m2, .ref m3, .ref m4, .ref m5, .int v6, .int v7, .int v8, .int v9, .int v10, .long v11, .int v12, .int v13, .int v14, .int v15, .ref m16, .ref m17, .ref m18, .ref m19, .ref m20, .ref m21, .ref m22, .ref m23, .int v24, .ref m25, .ref m26, .ref m27, .ref m28, .ref m29, .int v30, .ref m31, .ref m32, .ref m33, .int v34, .int v35, .int v36, .ref m37, .ref m38, .ref m39, .ref m40, .long v41])), (m16, .inl (k 0, 5, .inl f16)), (m17, .inl (k 0, 30, .inl g_9)), (m18, .inl (k 0, 250, .inl f18))]) [2, 3, 0, 1] (by decide +kernel) rfl
      exact W.iret (v := x_8) hx hb hr (fun tZ ht hW => ⟨⟨x_8, (0, g_9), rfl, ⟨(show (-5) ≤ x_8.toInt ∧ x_8.toInt ≤ 39 from by omega), (show 0 ≤ 0 ∧ 0 ≤ 0 from by omega), hp_10, hp_11, hp_12, hp_13, hp_14, hp_15, tk_16⟩, by rw [ht]; exact hP9, va_K.moved hW.alike hK, hD9⟩, hS.F ht⟩) hS.2.2 dX12_undo_43
    · skip
      have zh_6 : x_5.toInt = 0 := z_eq h_6
      refine lv_bipush (v := (-5)) hx hb dX12_undo_24 (by decide) ?_
      obtain ⟨hP9, hD9⟩ := sub2 hP hD (ws' := [(mo, .inr (12, [.int 0, .ref m1, .ref m2, .ref m3, .ref m4, .ref m5, .int v6, .int v7, .int v8, .int v9, .int v10, .long v11, .int v12, .int v13, .int v14, .int v15, .ref m16, .ref m17, .ref m18, .ref m19, .ref m20, .ref m21, .ref m22, .ref m23, .int v24, .ref m25, .ref m26, .ref m27, .ref m28, .ref m29, .int v30, .ref m31, .ref m32, .ref m33, .int v34, .int v35, .int v36, .ref m37, .ref m38, .ref m39, .ref m40, .long v41])), (m16, .inl (k 0, 5, .inl f16)), (m17, .inl (k 0, 30, .inl f17)), (m18, .inl (k 0, 250, .inl f18))]) [2, 3, 0, 1] (by decide +kernel) rfl
      exact W.iret (v := (-5)) hx hb hr (fun tZ ht hW => ⟨⟨(-5), (0, f17), rfl, ⟨(show (-5) ≤ (-5) ∧ (-5) ≤ 39 from by omega), (show 0 ≤ 0 ∧ 0 ≤ 0 from by omega), hp_f17_0, hp_f17_1, hp_f17_2, hp_f17_3, hp_f17_4, hp_f17_5, hTK⟩, by rw [ht]; exact hP9, va_K.moved hW.alike hK, hD9⟩, hS.F ht⟩) hS.2.2 dX12_undo_26
  · skip
    have zh_4 : r_1.toInt = 0 := z_eq h_4
    refine lv_bipush (v := (-2)) hx hb dX12_undo_12 (by decide) ?_
    obtain ⟨hP9, hD9⟩ := sub2 hP hD (ws' := [(mo, .inr (12, [.int 0, .ref m1, .ref m2, .ref m3, .ref m4, .ref m5, .int v6, .int v7, .int v8, .int v9, .int v10, .long v11, .int v12, .int v13, .int v14, .int v15, .ref m16, .ref m17, .ref m18, .ref m19, .ref m20, .ref m21, .ref m22, .ref m23, .int v24, .ref m25, .ref m26, .ref m27, .ref m28, .ref m29, .int v30, .ref m31, .ref m32, .ref m33, .int v34, .int v35, .int v36, .ref m37, .ref m38, .ref m39, .ref m40, .long v41])), (m16, .inl (k 0, 5, .inl f16)), (m17, .inl (k 0, 30, .inl f17)), (m18, .inl (k 0, 250, .inl f18))]) [2, 3, 0, 1] (by decide +kernel) rfl
    exact W.iret (v := (-2)) hx hb hr (fun tZ ht hW => ⟨⟨(-2), (0, f17), rfl, ⟨(show (-5) ≤ (-2) ∧ (-2) ≤ 39 from by omega), (show 0 ≤ 0 ∧ 0 ≤ 0 from by omega), hp_f17_0, hp_f17_1, hp_f17_2, hp_f17_3, hp_f17_4, hp_f17_5, hTK⟩, by rw [ht]; exact hP9, va_K.moved hW.alike hK, hD9⟩, hS.F ht⟩) hS.2.2 dX12_undo_14
